/-! row -/
theorem fl_D_198 : zFl "DebtDoors" 198 6 0 := ⟨_, rfl, by decide, (zTb_in 324 (by decide +kernel) (by decide +kernel)), rfl⟩
def y_D_rowDebt : zMt := (⟨"DebtDoors", "rowDebt", "(I)Z"⟩, prog_1_method_14_code, 5, some .boolean)
theorem d_D_rowDebt_0 : decode prog_1_method_14_code 0 = .ok (.iload_n 1, 1) := by decide +kernel
theorem d_D_rowDebt_1 : decode prog_1_method_14_code 1 = .ok (.ifCond .lt 16, 3) := by decide +kernel
theorem d_D_rowDebt_4 : decode prog_1_method_14_code 4 = .ok (.iload_n 1, 1) := by decide +kernel
theorem d_D_rowDebt_5 : decode prog_1_method_14_code 5 = .ok (.iconst 3, 1) := by decide +kernel
theorem d_D_rowDebt_6 : decode prog_1_method_14_code 6 = .ok (.iadd, 1) := by decide +kernel
theorem d_D_rowDebt_7 : decode prog_1_method_14_code 7 = .ok (.aload_n 0, 1) := by decide +kernel
theorem d_D_rowDebt_8 : decode prog_1_method_14_code 8 = .ok (.getfield 44, 3) := by decide +kernel
theorem d_D_rowDebt_11 : decode prog_1_method_14_code 11 = .ok (.getfield 185, 3) := by decide +kernel
theorem d_D_rowDebt_14 : decode prog_1_method_14_code 14 = .ok (.if_icmp .lt 5, 3) := by decide +kernel
theorem d_D_rowDebt_17 : decode prog_1_method_14_code 17 = .ok (.iconst 0, 1) := by decide +kernel
theorem d_D_rowDebt_18 : decode prog_1_method_14_code 18 = .ok (.ireturn, 1) := by decide +kernel
theorem d_D_rowDebt_19 : decode prog_1_method_14_code 19 = .ok (.aload_n 0, 1) := by decide +kernel
theorem d_D_rowDebt_20 : decode prog_1_method_14_code 20 = .ok (.getfield 44, 3) := by decide +kernel
theorem d_D_rowDebt_23 : decode prog_1_method_14_code 23 = .ok (.getfield 198, 3) := by decide +kernel
theorem d_D_rowDebt_26 : decode prog_1_method_14_code 26 = .ok (.iload_n 1, 1) := by decide +kernel
theorem d_D_rowDebt_27 : decode prog_1_method_14_code 27 = .ok (.iaload, 1) := by decide +kernel
theorem d_D_rowDebt_28 : decode prog_1_method_14_code 28 = .ok (.istore_n 2, 1) := by decide +kernel
theorem d_D_rowDebt_29 : decode prog_1_method_14_code 29 = .ok (.aload_n 0, 1) := by decide +kernel
theorem d_D_rowDebt_30 : decode prog_1_method_14_code 30 = .ok (.getfield 44, 3) := by decide +kernel
theorem d_D_rowDebt_33 : decode prog_1_method_14_code 33 = .ok (.getfield 198, 3) := by decide +kernel
theorem d_D_rowDebt_36 : decode prog_1_method_14_code 36 = .ok (.iload_n 1, 1) := by decide +kernel
theorem d_D_rowDebt_37 : decode prog_1_method_14_code 37 = .ok (.iconst 1, 1) := by decide +kernel
theorem d_D_rowDebt_38 : decode prog_1_method_14_code 38 = .ok (.iadd, 1) := by decide +kernel
theorem d_D_rowDebt_39 : decode prog_1_method_14_code 39 = .ok (.iaload, 1) := by decide +kernel
theorem d_D_rowDebt_40 : decode prog_1_method_14_code 40 = .ok (.istore_n 3, 1) := by decide +kernel
theorem d_D_rowDebt_41 : decode prog_1_method_14_code 41 = .ok (.aload_n 0, 1) := by decide +kernel
theorem d_D_rowDebt_42 : decode prog_1_method_14_code 42 = .ok (.getfield 44, 3) := by decide +kernel
theorem d_D_rowDebt_45 : decode prog_1_method_14_code 45 = .ok (.getfield 198, 3) := by decide +kernel
theorem d_D_rowDebt_48 : decode prog_1_method_14_code 48 = .ok (.iload_n 1, 1) := by decide +kernel
theorem d_D_rowDebt_49 : decode prog_1_method_14_code 49 = .ok (.iconst 2, 1) := by decide +kernel
theorem d_D_rowDebt_50 : decode prog_1_method_14_code 50 = .ok (.iadd, 1) := by decide +kernel
theorem d_D_rowDebt_51 : decode prog_1_method_14_code 51 = .ok (.iaload, 1) := by decide +kernel
theorem d_D_rowDebt_52 : decode prog_1_method_14_code 52 = .ok (.sipush 256, 3) := by decide +kernel
theorem d_D_rowDebt_55 : decode prog_1_method_14_code 55 = .ok (.imul, 1) := by decide +kernel
theorem d_D_rowDebt_56 : decode prog_1_method_14_code 56 = .ok (.aload_n 0, 1) := by decide +kernel
theorem d_D_rowDebt_57 : decode prog_1_method_14_code 57 = .ok (.getfield 44, 3) := by decide +kernel
theorem d_D_rowDebt_60 : decode prog_1_method_14_code 60 = .ok (.getfield 198, 3) := by decide +kernel
theorem d_D_rowDebt_63 : decode prog_1_method_14_code 63 = .ok (.iload_n 1, 1) := by decide +kernel
theorem d_D_rowDebt_64 : decode prog_1_method_14_code 64 = .ok (.iconst 3, 1) := by decide +kernel
theorem d_D_rowDebt_65 : decode prog_1_method_14_code 65 = .ok (.iadd, 1) := by decide +kernel
theorem d_D_rowDebt_66 : decode prog_1_method_14_code 66 = .ok (.iaload, 1) := by decide +kernel
theorem d_D_rowDebt_67 : decode prog_1_method_14_code 67 = .ok (.iadd, 1) := by decide +kernel
theorem d_D_rowDebt_68 : decode prog_1_method_14_code 68 = .ok (.istore 4, 2) := by decide +kernel
theorem d_D_rowDebt_70 : decode prog_1_method_14_code 70 = .ok (.aload_n 0, 1) := by decide +kernel
theorem d_D_rowDebt_71 : decode prog_1_method_14_code 71 = .ok (.iload_n 2, 1) := by decide +kernel
theorem d_D_rowDebt_72 : decode prog_1_method_14_code 72 = .ok (.iload_n 3, 1) := by decide +kernel
theorem d_D_rowDebt_73 : decode prog_1_method_14_code 73 = .ok (.iload 4, 2) := by decide +kernel
theorem d_D_rowDebt_75 : decode prog_1_method_14_code 75 = .ok (.invokevirtual 145, 3) := by decide +kernel
theorem d_D_rowDebt_78 : decode prog_1_method_14_code 78 = .ok (.ifCond .ge 5, 3) := by decide +kernel
theorem d_D_rowDebt_81 : decode prog_1_method_14_code 81 = .ok (.iconst 0, 1) := by decide +kernel
theorem d_D_rowDebt_82 : decode prog_1_method_14_code 82 = .ok (.ireturn, 1) := by decide +kernel
theorem d_D_rowDebt_83 : decode prog_1_method_14_code 83 = .ok (.aload_n 0, 1) := by decide +kernel
theorem d_D_rowDebt_84 : decode prog_1_method_14_code 84 = .ok (.getfield 12, 3) := by decide +kernel
theorem d_D_rowDebt_87 : decode prog_1_method_14_code 87 = .ok (.getfield 115, 3) := by decide +kernel
theorem d_D_rowDebt_90 : decode prog_1_method_14_code 90 = .ok (.iload_n 2, 1) := by decide +kernel
theorem d_D_rowDebt_91 : decode prog_1_method_14_code 91 = .ok (.iload_n 3, 1) := by decide +kernel
theorem d_D_rowDebt_92 : decode prog_1_method_14_code 92 = .ok (.iload 4, 2) := by decide +kernel
theorem d_D_rowDebt_94 : decode prog_1_method_14_code 94 = .ok (.invokevirtual 149, 3) := by decide +kernel
theorem d_D_rowDebt_97 : decode prog_1_method_14_code 97 = .ok (.iconst 1, 1) := by decide +kernel
theorem d_D_rowDebt_98 : decode prog_1_method_14_code 98 = .ok (.ireturn, 1) := by decide +kernel
def w_D_rowDebt {d : Nat} (hd : 3 ≤ d) := (show SS ("DebtDoors", prog_1_method_14_code, 5) (some .boolean) d 0 0 0 0 _ from (sS (p1 := 19) (sIf (pn := 19) (tt := 17) (xC (rOr (mm := 4) (rJ1 (tgt := 17) k_lt (rIn 1 d_D_rowDebt_0 rfl) d_D_rowDebt_1 (by decide)) (rNot (rJ2 (tgt := 19) j_lt (r2 o_add (rIn 1 d_D_rowDebt_4 rfl) (rI d_D_rowDebt_5 rfl) d_D_rowDebt_6) (rF 2 fl_D_185 nk_6_2 (rFr fl_D_44 nk_11_6 (rAn 0 d_D_rowDebt_7 rfl) d_D_rowDebt_8) d_D_rowDebt_11 rfl) d_D_rowDebt_14 (by decide))))) (sRz (xE (rI d_D_rowDebt_17 rfl)) d_D_rowDebt_18 rfl)) (sS (p1 := 29) (sIn 2 (xE (rIa (rFr fl_D_198 nk_6_0 (rFr fl_D_44 nk_11_6 (rAn 0 d_D_rowDebt_19 rfl) d_D_rowDebt_20) d_D_rowDebt_23) (rIn 1 d_D_rowDebt_26 rfl) d_D_rowDebt_27)) d_D_rowDebt_28 rfl (by decide)) (sS (p1 := 41) (sIn 3 (xE (rIa (rFr fl_D_198 nk_6_0 (rFr fl_D_44 nk_11_6 (rAn 0 d_D_rowDebt_29 rfl) d_D_rowDebt_30) d_D_rowDebt_33) (r2 o_add (rIn 1 d_D_rowDebt_36 rfl) (rI d_D_rowDebt_37 rfl) d_D_rowDebt_38) d_D_rowDebt_39)) d_D_rowDebt_40 rfl (by decide)) (sS (p1 := 70) (sI (xE (r2 o_add (r2 o_mul (rIa (rFr fl_D_198 nk_6_0 (rFr fl_D_44 nk_11_6 (rAn 0 d_D_rowDebt_41 rfl) d_D_rowDebt_42) d_D_rowDebt_45) (r2 o_add (rIn 1 d_D_rowDebt_48 rfl) (rI d_D_rowDebt_49 rfl) d_D_rowDebt_50) d_D_rowDebt_51) (rSi d_D_rowDebt_52 rfl) d_D_rowDebt_55) (rIa (rFr fl_D_198 nk_6_0 (rFr fl_D_44 nk_11_6 (rAn 0 d_D_rowDebt_56 rfl) d_D_rowDebt_57) d_D_rowDebt_60) (r2 o_add (rIn 1 d_D_rowDebt_63 rfl) (rI d_D_rowDebt_64 rfl) d_D_rowDebt_65) d_D_rowDebt_66) d_D_rowDebt_67)) d_D_rowDebt_68 (by decide)) (sS (p1 := 83) (sIf (pn := 83) (tt := 81) (xC (rNot (rJ1 (tgt := 83) k_ge (rV p_D_debtRefusal (Nat.le_trans (Nat.le_of_ble_eq_true rfl) hd) lv_D_145 (rAi (rAi (rAi (rAr rA0 (rAn 0 d_D_rowDebt_70 rfl)) (rIn 2 d_D_rowDebt_71 rfl)) (rIn 3 d_D_rowDebt_72 rfl)) (rIl d_D_rowDebt_73)) (by decide) d_D_rowDebt_75) d_D_rowDebt_78 (by decide)))) (sRz (xE (rI d_D_rowDebt_81 rfl)) d_D_rowDebt_82 rfl)) (sS (p1 := 97) (sV (xVv lv_D_149 (xA (rAi (rAi (rAi (rAr rA0 (rFr fl_D_115 nk_9_0 (rFr fl_D_12 nk_11_0 (rAn 0 d_D_rowDebt_83 rfl) d_D_rowDebt_84) d_D_rowDebt_87)) (rIn 2 d_D_rowDebt_90 rfl)) (rIn 3 d_D_rowDebt_91 rfl)) (rIl d_D_rowDebt_92))) (by decide) d_D_rowDebt_94)) (sRz (xE (rI d_D_rowDebt_97 rfl)) d_D_rowDebt_98 rfl))))))))
theorem m_D_rowDebt : Cond.instanceMethod y_D_rowDebt.1 ∈ zTb ∧ Cond.selects y_D_rowDebt.1.cls y_D_rowDebt.1 y_D_rowDebt.1 ∈ zTb ∧ Cond.initialized y_D_rowDebt.1.cls ∈ zTb ∧ Cond.code y_D_rowDebt.1 y_D_rowDebt.2.1 y_D_rowDebt.2.2.1 y_D_rowDebt.2.2.2 ∈ zTb ∧ (y_D_rowDebt.1.cls ≠ "java/lang/invoke/MethodHandle" ∧ y_D_rowDebt.1.cls ≠ "java/lang/invoke/VarHandle" ∧ (parseMethodDescriptor y_D_rowDebt.1.desc).map (fun d => d.parameters.length) = some 1) ∧ y_D_rowDebt.2.2.1 ≤ 20 :=
  ⟨(zTb_in 732 (by decide +kernel) (by decide +kernel)), (List.mem_filter.mpr ⟨List.mem_append_left _ (by decide +kernel), by decide +kernel⟩), (zTb_in 139 (by decide +kernel) (by decide +kernel)), (zTb_in 733 (by decide +kernel) (by decide +kernel)), by decide +kernel, by decide +kernel⟩
theorem lv_D_192 : zLv "DebtDoors" 192 y_D_rowDebt 1 11 := ⟨⟨(zTb_in 730 (by decide +kernel) (by decide +kernel)), m_D_rowDebt.1, m_D_rowDebt.2.1, m_D_rowDebt.2.2⟩, _, rfl, rfl⟩
theorem fp_11_16 : zFp 11 16 0 := ⟨_, rfl, rfl, rfl, by decide⟩
def y_D_row : zMt := (⟨"DebtDoors", "row", "()I"⟩, prog_1_method_13_code, 4, some .int)
theorem d_D_row_0 : decode prog_1_method_13_code 0 = .ok (.aload_n 0, 1) := by decide +kernel
theorem d_D_row_1 : decode prog_1_method_13_code 1 = .ok (.getfield 44, 3) := by decide +kernel
theorem d_D_row_4 : decode prog_1_method_13_code 4 = .ok (.getfield 185, 3) := by decide +kernel
theorem d_D_row_7 : decode prog_1_method_13_code 7 = .ok (.ifCond .ne 10, 3) := by decide +kernel
theorem d_D_row_10 : decode prog_1_method_13_code 10 = .ok (.aload_n 0, 1) := by decide +kernel
theorem d_D_row_11 : decode prog_1_method_13_code 11 = .ok (.bipush (-6), 2) := by decide +kernel
theorem d_D_row_13 : decode prog_1_method_13_code 13 = .ok (.invokevirtual 108, 3) := by decide +kernel
theorem d_D_row_16 : decode prog_1_method_13_code 16 = .ok (.ireturn, 1) := by decide +kernel
theorem d_D_row_17 : decode prog_1_method_13_code 17 = .ok (.iconst 0, 1) := by decide +kernel
theorem d_D_row_18 : decode prog_1_method_13_code 18 = .ok (.istore_n 1, 1) := by decide +kernel
theorem d_D_row_19 : decode prog_1_method_13_code 19 = .ok (.iconst 0, 1) := by decide +kernel
theorem d_D_row_20 : decode prog_1_method_13_code 20 = .ok (.istore_n 2, 1) := by decide +kernel
theorem d_D_row_21 : decode prog_1_method_13_code 21 = .ok (.iconst 0, 1) := by decide +kernel
theorem d_D_row_22 : decode prog_1_method_13_code 22 = .ok (.istore_n 3, 1) := by decide +kernel
theorem d_D_row_23 : decode prog_1_method_13_code 23 = .ok (.iload_n 3, 1) := by decide +kernel
theorem d_D_row_24 : decode prog_1_method_13_code 24 = .ok (.aload_n 0, 1) := by decide +kernel
theorem d_D_row_25 : decode prog_1_method_13_code 25 = .ok (.getfield 44, 3) := by decide +kernel
theorem d_D_row_28 : decode prog_1_method_13_code 28 = .ok (.getfield 185, 3) := by decide +kernel
theorem d_D_row_31 : decode prog_1_method_13_code 31 = .ok (.if_icmp .ge 26, 3) := by decide +kernel
theorem d_D_row_34 : decode prog_1_method_13_code 34 = .ok (.aload_n 0, 1) := by decide +kernel
theorem d_D_row_35 : decode prog_1_method_13_code 35 = .ok (.iload_n 3, 1) := by decide +kernel
theorem d_D_row_36 : decode prog_1_method_13_code 36 = .ok (.invokevirtual 192, 3) := by decide +kernel
theorem d_D_row_39 : decode prog_1_method_13_code 39 = .ok (.ifCond .eq 9, 3) := by decide +kernel
theorem d_D_row_42 : decode prog_1_method_13_code 42 = .ok (.iinc 1 1, 3) := by decide +kernel
theorem d_D_row_45 : decode prog_1_method_13_code 45 = .ok (.goto 6, 3) := by decide +kernel
theorem d_D_row_48 : decode prog_1_method_13_code 48 = .ok (.iinc 2 1, 3) := by decide +kernel
theorem d_D_row_51 : decode prog_1_method_13_code 51 = .ok (.iinc 3 4, 3) := by decide +kernel
theorem d_D_row_54 : decode prog_1_method_13_code 54 = .ok (.goto (-31), 3) := by decide +kernel
theorem d_D_row_57 : decode prog_1_method_13_code 57 = .ok (.aload_n 0, 1) := by decide +kernel
theorem d_D_row_58 : decode prog_1_method_13_code 58 = .ok (.getfield 44, 3) := by decide +kernel
theorem d_D_row_61 : decode prog_1_method_13_code 61 = .ok (.iconst 0, 1) := by decide +kernel
theorem d_D_row_62 : decode prog_1_method_13_code 62 = .ok (.putfield 185, 3) := by decide +kernel
theorem d_D_row_65 : decode prog_1_method_13_code 65 = .ok (.aload_n 0, 1) := by decide +kernel
theorem d_D_row_66 : decode prog_1_method_13_code 66 = .ok (.iload_n 2, 1) := by decide +kernel
theorem d_D_row_67 : decode prog_1_method_13_code 67 = .ok (.putfield 195, 3) := by decide +kernel
theorem d_D_row_70 : decode prog_1_method_13_code 70 = .ok (.aload_n 0, 1) := by decide +kernel
theorem d_D_row_71 : decode prog_1_method_13_code 71 = .ok (.getfield 34, 3) := by decide +kernel
theorem d_D_row_74 : decode prog_1_method_13_code 74 = .ok (.invokevirtual 127, 3) := by decide +kernel
theorem d_D_row_77 : decode prog_1_method_13_code 77 = .ok (.aload_n 0, 1) := by decide +kernel
theorem d_D_row_78 : decode prog_1_method_13_code 78 = .ok (.iload_n 1, 1) := by decide +kernel
theorem d_D_row_79 : decode prog_1_method_13_code 79 = .ok (.invokevirtual 130, 3) := by decide +kernel
theorem d_D_row_82 : decode prog_1_method_13_code 82 = .ok (.ireturn, 1) := by decide +kernel
def w_D_row {d : Nat} (hd : 1 ≤ d) := (show SS ("DebtDoors", prog_1_method_13_code, 4) (some .int) d 0 0 0 0 _ from (sS (p1 := 17) (sIf (pn := 17) (tt := 10) (xC (rNot (rJ1 (tgt := 17) k_ne (rF 2 fl_D_185 nk_6_2 (rFr fl_D_44 nk_11_6 (rAn 0 d_D_row_0 rfl) d_D_row_1) d_D_row_4 rfl) d_D_row_7 (by decide)))) (sRi (xV lv_D_108 (xA (rAi (rAr rA0 (rAn 0 d_D_row_10 rfl)) (rB d_D_row_11 rfl))) (by decide) d_D_row_13) d_D_row_16 rfl)) (sS (p1 := 19) (sIn 1 (xE (rI d_D_row_17 rfl)) d_D_row_18 rfl (by decide)) (sS (p1 := 21) (sIn 2 (xE (rI d_D_row_19 rfl)) d_D_row_20 rfl (by decide)) (sS (p1 := 57) (sS (p1 := 23) (sIn 3 (xE (rI d_D_row_21 rfl)) d_D_row_22 rfl (by decide)) (sLp (ps := 51) (tt := 34) (pn := 57) (p1 := 0) (p2 := 0) (xC (rNot (rJ2 (tgt := 57) j_ge (rIn 3 d_D_row_23 rfl) (rF 2 fl_D_185 nk_6_2 (rFr fl_D_44 nk_11_6 (rAn 0 d_D_row_24 rfl) d_D_row_25) d_D_row_28 rfl) d_D_row_31 (by decide)))) (sIe (pn := 51) (tt := 42) (ff := 48) (xNot (xJ1 (tgt := 48) k_eq (xV lv_D_192 (xA (rAi (rAr rA0 (rAn 0 d_D_row_34 rfl)) (rIn 3 d_D_row_35 rfl))) (by decide) d_D_row_36) d_D_row_39 (by decide))) (sGo (pn := 51) (sInc d_D_row_42 (by decide)) d_D_row_45 (by decide)) (sInc d_D_row_48 (by decide))) (sGo (pn := 23) (sInc d_D_row_51 (by decide)) d_D_row_54 (by decide)))) (sS (p1 := 65) (sP 2 fl_D_185 fp_6_2 nk_6_2 (rFr fl_D_44 nk_11_6 (rAn 0 d_D_row_57 rfl) d_D_row_58) (xE (rI d_D_row_61 rfl)) d_D_row_62 rfl) (sS (p1 := 70) (sP 16 fl_D_195 fp_11_16 nk_11_16 (rAn 0 d_D_row_65 rfl) (xE (rIn 2 d_D_row_66 rfl)) d_D_row_67 rfl) (sS (p1 := 77) (sV (xVv lv_D_127 (xA (rAr rA0 (rFr fl_D_34 nk_11_4 (rAn 0 d_D_row_70 rfl) d_D_row_71))) (by decide) d_D_row_74)) (sRi (xV lv_D_130 (xA (rAi (rAr rA0 (rAn 0 d_D_row_77 rfl)) (rIn 1 d_D_row_78 rfl))) (by decide) d_D_row_79) d_D_row_82 rfl)))))))))
theorem fp_12_6 : zFp 12 6 0 := ⟨_, rfl, rfl, rfl, by decide⟩
def y_M_row : zMt := (⟨"DebtDoorsModel", "row", "()I"⟩, prog_14_method_33_code, 6, some .int)
theorem d_M_row_0 : decode prog_14_method_33_code 0 = .ok (.aload_n 0, 1) := by decide +kernel
theorem d_M_row_1 : decode prog_14_method_33_code 1 = .ok (.getfield 181, 3) := by decide +kernel
theorem d_M_row_4 : decode prog_14_method_33_code 4 = .ok (.istore_n 1, 1) := by decide +kernel
theorem d_M_row_5 : decode prog_14_method_33_code 5 = .ok (.aload_n 0, 1) := by decide +kernel
theorem d_M_row_6 : decode prog_14_method_33_code 6 = .ok (.iconst 0, 1) := by decide +kernel
theorem d_M_row_7 : decode prog_14_method_33_code 7 = .ok (.putfield 181, 3) := by decide +kernel
theorem d_M_row_10 : decode prog_14_method_33_code 10 = .ok (.iload_n 1, 1) := by decide +kernel
theorem d_M_row_11 : decode prog_14_method_33_code 11 = .ok (.ifCond .ne 10, 3) := by decide +kernel
theorem d_M_row_14 : decode prog_14_method_33_code 14 = .ok (.aload_n 0, 1) := by decide +kernel
theorem d_M_row_15 : decode prog_14_method_33_code 15 = .ok (.bipush (-6), 2) := by decide +kernel
theorem d_M_row_17 : decode prog_14_method_33_code 17 = .ok (.invokevirtual 127, 3) := by decide +kernel
theorem d_M_row_20 : decode prog_14_method_33_code 20 = .ok (.ireturn, 1) := by decide +kernel
theorem d_M_row_21 : decode prog_14_method_33_code 21 = .ok (.iconst 0, 1) := by decide +kernel
theorem d_M_row_22 : decode prog_14_method_33_code 22 = .ok (.istore_n 2, 1) := by decide +kernel
theorem d_M_row_23 : decode prog_14_method_33_code 23 = .ok (.aload_n 0, 1) := by decide +kernel
theorem d_M_row_24 : decode prog_14_method_33_code 24 = .ok (.iload_n 1, 1) := by decide +kernel
theorem d_M_row_25 : decode prog_14_method_33_code 25 = .ok (.iconst 4, 1) := by decide +kernel
theorem d_M_row_26 : decode prog_14_method_33_code 26 = .ok (.irem, 1) := by decide +kernel
theorem d_M_row_27 : decode prog_14_method_33_code 27 = .ok (.ifCond .ne 7, 3) := by decide +kernel
theorem d_M_row_30 : decode prog_14_method_33_code 30 = .ok (.iconst 0, 1) := by decide +kernel
theorem d_M_row_31 : decode prog_14_method_33_code 31 = .ok (.goto 4, 3) := by decide +kernel
theorem d_M_row_34 : decode prog_14_method_33_code 34 = .ok (.iconst 1, 1) := by decide +kernel
theorem d_M_row_35 : decode prog_14_method_33_code 35 = .ok (.putfield 184, 3) := by decide +kernel
theorem d_M_row_38 : decode prog_14_method_33_code 38 = .ok (.iconst 0, 1) := by decide +kernel
theorem d_M_row_39 : decode prog_14_method_33_code 39 = .ok (.istore_n 3, 1) := by decide +kernel
theorem d_M_row_40 : decode prog_14_method_33_code 40 = .ok (.iload_n 3, 1) := by decide +kernel
theorem d_M_row_41 : decode prog_14_method_33_code 41 = .ok (.iconst 4, 1) := by decide +kernel
theorem d_M_row_42 : decode prog_14_method_33_code 42 = .ok (.iadd, 1) := by decide +kernel
theorem d_M_row_43 : decode prog_14_method_33_code 43 = .ok (.iload_n 1, 1) := by decide +kernel
theorem d_M_row_44 : decode prog_14_method_33_code 44 = .ok (.if_icmp .gt 127, 3) := by decide +kernel
theorem d_M_row_47 : decode prog_14_method_33_code 47 = .ok (.aload_n 0, 1) := by decide +kernel
theorem d_M_row_48 : decode prog_14_method_33_code 48 = .ok (.getfield 41, 3) := by decide +kernel
theorem d_M_row_51 : decode prog_14_method_33_code 51 = .ok (.iload_n 3, 1) := by decide +kernel
theorem d_M_row_52 : decode prog_14_method_33_code 52 = .ok (.iconst 2, 1) := by decide +kernel
theorem d_M_row_53 : decode prog_14_method_33_code 53 = .ok (.iadd, 1) := by decide +kernel
theorem d_M_row_54 : decode prog_14_method_33_code 54 = .ok (.baload, 1) := by decide +kernel
theorem d_M_row_55 : decode prog_14_method_33_code 55 = .ok (.sipush 255, 3) := by decide +kernel
theorem d_M_row_58 : decode prog_14_method_33_code 58 = .ok (.iand, 1) := by decide +kernel
theorem d_M_row_59 : decode prog_14_method_33_code 59 = .ok (.sipush 256, 3) := by decide +kernel
theorem d_M_row_62 : decode prog_14_method_33_code 62 = .ok (.imul, 1) := by decide +kernel
theorem d_M_row_63 : decode prog_14_method_33_code 63 = .ok (.aload_n 0, 1) := by decide +kernel
theorem d_M_row_64 : decode prog_14_method_33_code 64 = .ok (.getfield 41, 3) := by decide +kernel
theorem d_M_row_67 : decode prog_14_method_33_code 67 = .ok (.iload_n 3, 1) := by decide +kernel
theorem d_M_row_68 : decode prog_14_method_33_code 68 = .ok (.iconst 3, 1) := by decide +kernel
theorem d_M_row_69 : decode prog_14_method_33_code 69 = .ok (.iadd, 1) := by decide +kernel
theorem d_M_row_70 : decode prog_14_method_33_code 70 = .ok (.baload, 1) := by decide +kernel
theorem d_M_row_71 : decode prog_14_method_33_code 71 = .ok (.sipush 255, 3) := by decide +kernel
theorem d_M_row_74 : decode prog_14_method_33_code 74 = .ok (.iand, 1) := by decide +kernel
theorem d_M_row_75 : decode prog_14_method_33_code 75 = .ok (.iadd, 1) := by decide +kernel
theorem d_M_row_76 : decode prog_14_method_33_code 76 = .ok (.istore 4, 2) := by decide +kernel
theorem d_M_row_78 : decode prog_14_method_33_code 78 = .ok (.aload_n 0, 1) := by decide +kernel
theorem d_M_row_79 : decode prog_14_method_33_code 79 = .ok (.aload_n 0, 1) := by decide +kernel
theorem d_M_row_80 : decode prog_14_method_33_code 80 = .ok (.getfield 41, 3) := by decide +kernel
theorem d_M_row_83 : decode prog_14_method_33_code 83 = .ok (.iload_n 3, 1) := by decide +kernel
theorem d_M_row_84 : decode prog_14_method_33_code 84 = .ok (.baload, 1) := by decide +kernel
theorem d_M_row_85 : decode prog_14_method_33_code 85 = .ok (.aload_n 0, 1) := by decide +kernel
theorem d_M_row_86 : decode prog_14_method_33_code 86 = .ok (.getfield 41, 3) := by decide +kernel
theorem d_M_row_89 : decode prog_14_method_33_code 89 = .ok (.iload_n 3, 1) := by decide +kernel
theorem d_M_row_90 : decode prog_14_method_33_code 90 = .ok (.iconst 1, 1) := by decide +kernel
theorem d_M_row_91 : decode prog_14_method_33_code 91 = .ok (.iadd, 1) := by decide +kernel
theorem d_M_row_92 : decode prog_14_method_33_code 92 = .ok (.baload, 1) := by decide +kernel
theorem d_M_row_93 : decode prog_14_method_33_code 93 = .ok (.iload 4, 2) := by decide +kernel
theorem d_M_row_95 : decode prog_14_method_33_code 95 = .ok (.invokevirtual 158, 3) := by decide +kernel
theorem d_M_row_98 : decode prog_14_method_33_code 98 = .ok (.ifCond .ne 7, 3) := by decide +kernel
theorem d_M_row_101 : decode prog_14_method_33_code 101 = .ok (.iconst 1, 1) := by decide +kernel
theorem d_M_row_102 : decode prog_14_method_33_code 102 = .ok (.goto 4, 3) := by decide +kernel
theorem d_M_row_105 : decode prog_14_method_33_code 105 = .ok (.iconst 0, 1) := by decide +kernel
theorem d_M_row_106 : decode prog_14_method_33_code 106 = .ok (.istore 5, 2) := by decide +kernel
theorem d_M_row_108 : decode prog_14_method_33_code 108 = .ok (.iload 5, 2) := by decide +kernel
theorem d_M_row_110 : decode prog_14_method_33_code 110 = .ok (.ifCond .eq 23, 3) := by decide +kernel
theorem d_M_row_113 : decode prog_14_method_33_code 113 = .ok (.aload_n 0, 1) := by decide +kernel
theorem d_M_row_114 : decode prog_14_method_33_code 114 = .ok (.aload_n 0, 1) := by decide +kernel
theorem d_M_row_115 : decode prog_14_method_33_code 115 = .ok (.getfield 41, 3) := by decide +kernel
theorem d_M_row_118 : decode prog_14_method_33_code 118 = .ok (.iload_n 3, 1) := by decide +kernel
theorem d_M_row_119 : decode prog_14_method_33_code 119 = .ok (.baload, 1) := by decide +kernel
theorem d_M_row_120 : decode prog_14_method_33_code 120 = .ok (.aload_n 0, 1) := by decide +kernel
theorem d_M_row_121 : decode prog_14_method_33_code 121 = .ok (.getfield 41, 3) := by decide +kernel
theorem d_M_row_124 : decode prog_14_method_33_code 124 = .ok (.iload_n 3, 1) := by decide +kernel
theorem d_M_row_125 : decode prog_14_method_33_code 125 = .ok (.iconst 1, 1) := by decide +kernel
theorem d_M_row_126 : decode prog_14_method_33_code 126 = .ok (.iadd, 1) := by decide +kernel
theorem d_M_row_127 : decode prog_14_method_33_code 127 = .ok (.baload, 1) := by decide +kernel
theorem d_M_row_128 : decode prog_14_method_33_code 128 = .ok (.iload 4, 2) := by decide +kernel
theorem d_M_row_130 : decode prog_14_method_33_code 130 = .ok (.invokevirtual 162, 3) := by decide +kernel
theorem d_M_row_133 : decode prog_14_method_33_code 133 = .ok (.iload_n 2, 1) := by decide +kernel
theorem d_M_row_134 : decode prog_14_method_33_code 134 = .ok (.iload 5, 2) := by decide +kernel
theorem d_M_row_136 : decode prog_14_method_33_code 136 = .ok (.ifCond .eq 7, 3) := by decide +kernel
theorem d_M_row_139 : decode prog_14_method_33_code 139 = .ok (.iconst 1, 1) := by decide +kernel
theorem d_M_row_140 : decode prog_14_method_33_code 140 = .ok (.goto 4, 3) := by decide +kernel
theorem d_M_row_143 : decode prog_14_method_33_code 143 = .ok (.iconst 0, 1) := by decide +kernel
theorem d_M_row_144 : decode prog_14_method_33_code 144 = .ok (.iadd, 1) := by decide +kernel
theorem d_M_row_145 : decode prog_14_method_33_code 145 = .ok (.istore_n 2, 1) := by decide +kernel
theorem d_M_row_146 : decode prog_14_method_33_code 146 = .ok (.aload_n 0, 1) := by decide +kernel
theorem d_M_row_147 : decode prog_14_method_33_code 147 = .ok (.dup, 1) := by decide +kernel
theorem d_M_row_148 : decode prog_14_method_33_code 148 = .ok (.getfield 184, 3) := by decide +kernel
theorem d_M_row_151 : decode prog_14_method_33_code 151 = .ok (.iload 5, 2) := by decide +kernel
theorem d_M_row_153 : decode prog_14_method_33_code 153 = .ok (.ifCond .eq 7, 3) := by decide +kernel
theorem d_M_row_156 : decode prog_14_method_33_code 156 = .ok (.iconst 0, 1) := by decide +kernel
theorem d_M_row_157 : decode prog_14_method_33_code 157 = .ok (.goto 4, 3) := by decide +kernel
theorem d_M_row_160 : decode prog_14_method_33_code 160 = .ok (.iconst 1, 1) := by decide +kernel
theorem d_M_row_161 : decode prog_14_method_33_code 161 = .ok (.iadd, 1) := by decide +kernel
theorem d_M_row_162 : decode prog_14_method_33_code 162 = .ok (.putfield 184, 3) := by decide +kernel
theorem d_M_row_165 : decode prog_14_method_33_code 165 = .ok (.iinc 3 4, 3) := by decide +kernel
theorem d_M_row_168 : decode prog_14_method_33_code 168 = .ok (.goto (-128), 3) := by decide +kernel
theorem d_M_row_171 : decode prog_14_method_33_code 171 = .ok (.aload_n 0, 1) := by decide +kernel
theorem d_M_row_172 : decode prog_14_method_33_code 172 = .ok (.iload_n 2, 1) := by decide +kernel
theorem d_M_row_173 : decode prog_14_method_33_code 173 = .ok (.invokevirtual 130, 3) := by decide +kernel
theorem d_M_row_176 : decode prog_14_method_33_code 176 = .ok (.ireturn, 1) := by decide +kernel
def w_M_row {d : Nat} (hd : 4 ≤ d) := (show SS ("DebtDoorsModel", prog_14_method_33_code, 6) (some .int) d 0 0 0 0 _ from (sS (p1 := 5) (sIn 1 (xE (rF 11 fl_M_181 nk_12_11 (rAn 0 d_M_row_0 rfl) d_M_row_1 rfl)) d_M_row_4 rfl (by decide)) (sS (p1 := 10) (sP 11 fl_M_181 fp_12_11 nk_12_11 (rAn 0 d_M_row_5 rfl) (xE (rI d_M_row_6 rfl)) d_M_row_7 rfl) (sS (p1 := 21) (sIf (pn := 21) (tt := 14) (xC (rNot (rJ1 (tgt := 21) k_ne (rIn 1 d_M_row_10 rfl) d_M_row_11 (by decide)))) (sRi (xV lv_M_127 (xA (rAi (rAr rA0 (rAn 0 d_M_row_14 rfl)) (rB d_M_row_15 rfl))) (by decide) d_M_row_17) d_M_row_20 rfl)) (sS (p1 := 23) (sIn 2 (xE (rI d_M_row_21 rfl)) d_M_row_22 rfl (by decide)) (sS (p1 := 38) (sP 6 fl_M_184 fp_12_6 nk_12_6 (rAn 0 d_M_row_23 rfl) (xE (rT2 (rNot (rJ1 (tgt := 34) k_ne (r2 o_rem (rIn 1 d_M_row_24 rfl) (rI d_M_row_25 rfl) d_M_row_26) d_M_row_27 (by decide))) (rGoE (p2 := 35) (rI d_M_row_30 rfl) d_M_row_31 (by decide)) (rI d_M_row_34 rfl))) d_M_row_35 rfl) (sS (p1 := 171) (sS (p1 := 40) (sIn 3 (xE (rI d_M_row_38 rfl)) d_M_row_39 rfl (by decide)) (sLp (ps := 165) (tt := 47) (pn := 171) (p1 := 0) (p2 := 0) (xC (rNot (rJ2 (tgt := 171) j_gt (r2 o_add (rIn 3 d_M_row_40 rfl) (rI d_M_row_41 rfl) d_M_row_42) (rIn 1 d_M_row_43 rfl) d_M_row_44 (by decide)))) (sS (p1 := 78) (sI (xE (r2 o_add (r2 o_mul (r2 o_and (rBa (rFr fl_M_41 nk_12_9 (rAn 0 d_M_row_47 rfl) d_M_row_48) (r2 o_add (rIn 3 d_M_row_51 rfl) (rI d_M_row_52 rfl) d_M_row_53) d_M_row_54) (rSi d_M_row_55 rfl) d_M_row_58) (rSi d_M_row_59 rfl) d_M_row_62) (r2 o_and (rBa (rFr fl_M_41 nk_12_9 (rAn 0 d_M_row_63 rfl) d_M_row_64) (r2 o_add (rIn 3 d_M_row_67 rfl) (rI d_M_row_68 rfl) d_M_row_69) d_M_row_70) (rSi d_M_row_71 rfl) d_M_row_74) d_M_row_75)) d_M_row_76 (by decide)) (sS (p1 := 108) (sI (xE (rTb (rNot (rJ1 (tgt := 105) k_ne (rV p_M_whyNot (Nat.le_trans (Nat.le_of_ble_eq_true rfl) hd) lv_M_158 (rAi (rAi (rAi (rAr rA0 (rAn 0 d_M_row_78 rfl)) (rBa (rFr fl_M_41 nk_12_9 (rAn 0 d_M_row_79 rfl) d_M_row_80) (rIn 3 d_M_row_83 rfl) d_M_row_84)) (rBa (rFr fl_M_41 nk_12_9 (rAn 0 d_M_row_85 rfl) d_M_row_86) (r2 o_add (rIn 3 d_M_row_89 rfl) (rI d_M_row_90 rfl) d_M_row_91) d_M_row_92)) (rIl d_M_row_93)) (by decide) d_M_row_95) d_M_row_98 (by decide))) (rGoE (p2 := 106) (rI d_M_row_101 rfl) d_M_row_102 (by decide)) (rI d_M_row_105 rfl))) d_M_row_106 (by decide)) (sS (p1 := 133) (sIf (pn := 133) (tt := 113) (xC (rNot (rJ1 (tgt := 133) k_eq (rIl d_M_row_108) d_M_row_110 (by decide)))) (sV (xVv lv_M_162 (xA (rAi (rAi (rAi (rAr rA0 (rAn 0 d_M_row_113 rfl)) (rBa (rFr fl_M_41 nk_12_9 (rAn 0 d_M_row_114 rfl) d_M_row_115) (rIn 3 d_M_row_118 rfl) d_M_row_119)) (rBa (rFr fl_M_41 nk_12_9 (rAn 0 d_M_row_120 rfl) d_M_row_121) (r2 o_add (rIn 3 d_M_row_124 rfl) (rI d_M_row_125 rfl) d_M_row_126) d_M_row_127)) (rIl d_M_row_128))) (by decide) d_M_row_130))) (sS (p1 := 146) (sIn 2 (xE (r2 o_add (rIn 2 d_M_row_133 rfl) (rT2 (rNot (rJ1 (tgt := 143) k_eq (rIl d_M_row_134) d_M_row_136 (by decide))) (rGoE (p2 := 144) (rI d_M_row_139 rfl) d_M_row_140 (by decide)) (rI d_M_row_143 rfl)) d_M_row_144)) d_M_row_145 rfl (by decide)) (sPo 6 o_add fl_M_184 fp_12_6 nk_12_6 (rAn 0 d_M_row_146 rfl) d_M_row_147 d_M_row_148 (rT2 (rNot (rJ1 (tgt := 160) k_eq (rIl d_M_row_151) d_M_row_153 (by decide))) (rGoE (p2 := 161) (rI d_M_row_156 rfl) d_M_row_157 (by decide)) (rI d_M_row_160 rfl)) d_M_row_161 d_M_row_162 rfl))))) (sGo (pn := 40) (sInc d_M_row_165 (by decide)) d_M_row_168 (by decide)))) (sRi (xV lv_M_130 (xA (rAi (rAr rA0 (rAn 0 d_M_row_171 rfl)) (rIn 2 d_M_row_172 rfl))) (by decide) d_M_row_173) d_M_row_176 rfl))))))))
noncomputable def rwC (Z : Zt) (B : Int → Int) (A : Lg) (t : Int) : Int := debtC Z.1 (A.2.1.length : Int) (B t) (B (t + 1)) (B (t + 2) * 256 + B (t + 3))
def rwX (B : Int → Int) (A : Lg) (t : Int) : Lg := (A.1, A.2.1 ++ [(B t, B (t + 1), B (t + 2) * 256 + B (t + 3), A.2.2)], A.2.2)
noncomputable def rwA (Z : Zt) (B : Int → Int) (A : Lg) : Nat → Lg × Int
  | 0 => (A, 0)
  | j + 1 => if rwC Z B (rwA Z B A j).1 (4 * (j : Int)) < 0 then rwA Z B A j else (rwX B (rwA Z B A j).1 (4 * (j : Int)), (rwA Z B A j).2 + 1)
theorem rwX_ok {Z : Zt} {B : Int → Int} {A : Lg} {t : Int} (hZ : okZ Z) (hA : okA A) (h : 0 ≤ rwC Z B A t) : okA (rwX B A t) := by
  obtain ⟨g1, g2, g3, g4⟩ := debtC_0 hZ.1.2 h
  have hd := hA.2.2
  exact ⟨hA.1, hA.2.1.app (by omega) ⟨g2.1, g2.2, g3, g4, by show 0 ≤ A.2.2 ∧ A.2.2 ≤ 999; omega⟩, hd⟩
theorem rwA_ok {Z : Zt} {B : Int → Int} {A : Lg} (hZ : okZ Z) (hA : okA A) : ∀ j : Nat, okA (rwA Z B A j).1 ∧ 0 ≤ (rwA Z B A j).2 ∧ (rwA Z B A j).2 ≤ j
  | 0 => ⟨hA, Int.le_refl _, Int.le_refl _⟩
  | j + 1 => by
    obtain ⟨i1, i2, i3⟩ := rwA_ok (B := B) hZ hA j
    rw [rwA]
    split
    · exact ⟨i1, i2, by omega⟩
    · next c => exact ⟨rwX_ok hZ i1 (Int.not_lt.mp c), by show 0 ≤ (rwA Z B A j).2 + 1; omega, by show (rwA Z B A j).2 + 1 ≤ _; omega⟩
theorem q_D_rowDebt {d : Nat} (hd : 3 ≤ d) {μ : zMem} {Z : Zt} {F : Option (List Cls)} {A : Lg} {w : Int → Int} {t : Int} (h : CTx μ Z F A w) (ht : 0 ≤ t ∧ t ≤ 400) (hn : μ 321 2 ≤ 400) (hB : ∀ i : Int, 0 ≤ i → i < 400 → 0 ≤ μ 322 i ∧ μ 322 i ≤ 255) : zSp d 0 0 y_D_rowDebt zT0 [vr 0, vi t] μ zT0 (fun q μ' => (¬ (t + 3 < μ 321 2 ∧ 0 ≤ rwC Z (μ 322) A t) → q = some (vi 0) ∧ μ' = μ) ∧ ((t + 3 < μ 321 2 ∧ 0 ≤ rwC Z (μ 322) A t) → q = some (vi 1) ∧ CTx μ' Z F (rwX (μ 322) A t) w ∧ zfc [2, 4, 5, 6, 7] μ μ')) := by
  obtain ⟨n1, n2, n3, n4, n5, n6, n7⟩ := h.n
  refine zSp.ss [vr 0, vi t, vx 0, vx 0, vx 0] rfl (w_D_rowDebt (Nat.le_trans (by decide) hd)) rfl rfl ?_
  (try simp only [zit_e, Bool.and_eq_true, Bool.or_eq_true, Bool.not_eq_true', Bool.and_eq_false_iff, Bool.or_eq_false_iff, Bool.not_eq_false', zbe, zdt, zdf, zb2_p, zbp_0, zbp_1, zbp_inj, zbp_01, Bool.true_eq_false, Bool.false_eq_true, true_and, and_true, Decidable.not_not, Classical.not_not, implies_true, List.nil_append, List.cons_append, List.append_assoc, Option.some.injEq, Sum.inl.injEq, zSw_c, zSw_n]); (try simp only [zit_e, Bool.and_eq_true, Bool.or_eq_true, Bool.not_eq_true', Bool.and_eq_false_iff, Bool.or_eq_false_iff, Bool.not_eq_false', zbe, zdt, zdf, zb2_p, zbp_0, zbp_1, zbp_inj, zbp_01, Bool.true_eq_false, Bool.false_eq_true, true_and, and_true, Decidable.not_not, Classical.not_not, implies_true, List.nil_append, List.cons_append, List.append_assoc, Option.some.injEq, Sum.inl.injEq, zSw_c, zSw_n, zc_0, zc_1, zc_2, zc_321]); (try simp only [zi_cs, zi_c0, zii_cs, zii_c0, zl_cs, zl_c0, zll_cs, zll_c0, zr_cs, zr_c0, zrr_cs, zrr_c0, zxs_cs, zxs_c0, zxx_cs, zxx_c0, zfree_c0, zfree_c1, zfree_cs, zfree_cz, zlong_i, zlong_r, zlong_x, zset_0, zset_s, true_and, and_true, Option.some.injEq, Sum.inl.injEq, Sum.inr.injEq, zb2_p, zbp_0, zbp_1, zbp_inj, zbp_01, Nat.zero_add, Nat.reduceAdd, implies_true, List.nil_append, List.cons_append, List.append_assoc, Int.not_lt, Int.not_le, Decidable.not_not, Int.zero_add, Int.reduceLE, Int.reduceLT, Int.reduceEq, Int.reduceNe, Int.reduceAdd, Int.reduceSub, Int.reduceMul, Int.reduceNeg, Int.reduceToNat, Nat.reduceMul, Nat.reduceLT, Nat.reduceEqDiff, and_self, ite_true, ite_false, zx1, zx2, zRecv, List.length_cons, List.length_nil, ne_eq, not_true_eq_false, not_false_eq_true, true_or, or_true, or_false, false_or, and_false, false_and, zf01, zf10, reduceCtorEq, zSw_c, zSw_n, zm_r, zit_T, zit_F, false_implies, true_implies, zc_0, zc_1, zc_2, zc_321])
  refine ⟨fun _ => by ((try simp only [zI_e]); (first | done | omega | skip)), ?_⟩
  refine zif (fun c => fun q => by omega) (fun c => ?_)
  have h0 := hB t (by omega) (by omega)
  have h1 := hB (t + 1) (by omega) (by omega)
  have h2 := hB (t + 2) (by omega) (by omega)
  have h3 := hB (t + 3) (by omega) (by omega)
  have er : f_D_debtRefusal [vr 0, vi (μ 322 t), vi (μ 322 (t + 1)), vi (μ 322 (t + 2) * 256 + μ 322 (t + 3))] μ = rwC Z (μ 322) A t := by
    unfold rwC
    rw [← n2, ← n6]
    exact debtC_f.symm
  rw [er]
  refine ⟨by omega, ⟨by ((try simp only [zI_e]); (first | done | omega | skip)), by omega, by omega⟩, ⟨⟨⟨by ((try simp only [zI_e]); (first | done | omega | skip)), by omega, by omega⟩, by ((try simp only [zI_e]); (first | done | omega | skip))⟩, ⟨by ((try simp only [zI_e]); (first | done | omega | skip)), by omega, by omega⟩, by ((try simp only [zI_e]); (first | done | omega | skip))⟩, ⟨rfl, trivial⟩, ?_⟩
  refine zif (fun c1 => fun q => by omega) (fun c1 => ?_)
  obtain ⟨g1, g2, g3, g4⟩ := debtC_0 h.1.1.2 (Int.not_lt.mp c1)
  refine zCw.use (q_Le_add (d := 1) (by decide) (by omega)) (by omega) (fun q X e => ?_)
  obtain ⟨rfl, e1, e2, e3, e4⟩ := e
  refine ⟨rfl, fun q => q ⟨by omega, by omega⟩, fun _ => ⟨h.up (rwX_ok h.1 h.2.1 (Int.not_lt.mp c1)) (lgO_is ?_ ?_ ?_) (by omega) (fun c hc => e4 c (by simp only [List.mem_cons, List.not_mem_nil, or_false]; omega)) (by rw [e4 326 (by decide)]; exact h.2.2.2.2.2), e4⟩⟩
  · rw [e4 3 (by decide)]
    exact n7
  · rw [e3, n3, n4]
    rfl
  · rw [e2, n4]
    rfl
theorem sgn_c {n nd a b m : Int} (hn : n ≤ 7) (ha : 0 ≤ a ∧ a ≤ 255) (hb : 0 ≤ b ∧ b ≤ 255) : debtC n nd (sgn a) (sgn b) m = debtC n nd a b m ∧ (0 ≤ debtC n nd a b m → sgn a = a ∧ sgn b = b) := by
  have e1 : (sgn a = sgn b) = (a = b) := propext ⟨fun e => by unfold sgn at e; split at e <;> split at e <;> omega, fun e => by rw [e]⟩
  have e2 : ∀ x : Int, 0 ≤ x ∧ x ≤ 255 → (0 ≤ sgn x ∧ sgn x < n) = (0 ≤ x ∧ x < n) := fun x hx => propext ⟨fun e => by unfold sgn at e; split at e <;> omega, fun e => by unfold sgn; split <;> omega⟩
  refine ⟨by unfold debtC; rw [e1, e2 a ha, e2 b hb], fun q => ?_⟩
  obtain ⟨g1, g2, g3, g4⟩ := debtC_0 hn q
  unfold sgn
  rw [if_pos (by omega), if_pos (by omega)]
  exact ⟨rfl, rfl⟩
theorem JJ.bl {k : Int} {a b : zMem} (h : JJ k a b) {v w : Int} (hv : v = w) : JJ k (zm a 0 16 v) (zm b 355 6 w) := by
  obtain ⟨x1, x2, x3, x4, x5, x6, x7⟩ := h
  subst hv
  refine ⟨x1.c (fun c _ _ i _ _ => by rw [zm_o (by omega)]) (fun i _ _ => by rw [zm_o (by omega)]), x2.c (fun c p q => zm_off c (by omega)) (zm_off _ (by decide)) (zm_o (by omega)), x3.c (fun c p q => zm_off c (by omega)) (zm_off _ (by decide)) (zm_off _ (by decide)), x4.c (zm_o (by omega)) (zm_o (by omega)) (zm_off _ (by decide)) (zm_o (by omega)) (zm_o (by omega)) (zm_off _ (by decide)) (zm_off _ (by decide)), ⟨?_, ?_, ?_, fun i p q => ?_⟩, x6.c (zm_o (by omega)) (zm_off _ (by decide)) (zm_o (by omega)) (zm_off _ (by decide)) (zm_off _ (by decide)) (zm_off _ (by decide)), by rw [zm_off _ (by decide)]; exact x7⟩
  · rw [zm_o (by omega), zm_o (by omega)]
    exact x5.1
  · rw [zm_s, zm_s]
  · rw [zm_o (by omega), zm_o (by omega)]
    exact x5.2.2.1
  · rw [zm_off _ (by decide), zm_off _ (by decide)]
    exact x5.2.2.2 i p q
/-- the tape is empty -/
theorem JJ.em {k : Int} {a b : zMem} (h : JJ k a b) : JJ k (zm a 321 2 0) (zm b 355 11 0) := by
  obtain ⟨n, t1, t2, t3, t4, t5, t6⟩ := h.2.2.2.1
  refine JJ.tp h ⟨0, by rw [zm_s]; rfl, by rw [zm_s]; rfl, by omega, fun i i0 i1 => ?_, ?_, fun i i0 i1 => ?_⟩ (fun c p q r s => by rw [zm_off _ (by omega)]) (fun c p q r s => by rw [zm_off _ (by omega)]) (fun j hj p q => by rw [zm_o (by omega)])
  · (repeat rw [zm_o (by omega)])
    exact t4 i i0 i1
  · (repeat rw [zm_o (by omega)])
    exact t5
  · (repeat rw [zm_o (by omega)])
    exact t6 i i0 i1
theorem rwA_s {Z : Zt} {B : Int → Int} {A : Lg} {j : Nat} : (rwC Z B (rwA Z B A j).1 (4 * (j : Int)) < 0 → rwA Z B A (j + 1) = rwA Z B A j) ∧ (¬ rwC Z B (rwA Z B A j).1 (4 * (j : Int)) < 0 → rwA Z B A (j + 1) = (rwX B (rwA Z B A j).1 (4 * (j : Int)), (rwA Z B A j).2 + 1)) := ⟨fun c => by rw [rwA, if_pos c], fun c => by rw [rwA, if_neg c]⟩
theorem q_D_row {d : Nat} (hd : 5 ≤ d) {μ : zMem} {Z : Zt} {F : Option (List Cls)} {A : Lg} {w : Int → Int} {n : Nat} (h : CTx μ Z F A w) (hn : μ 321 2 = (n : Int)) (hn4 : n ≤ 400) (hB : ∀ i : Int, 0 ≤ i → i < 400 → 0 ≤ μ 322 i ∧ μ 322 i ≤ 255) (hr : okR (μ 354)) : zSp d 0 0 y_D_row zT0 [vr 0] μ zT0 (fun q μ' => (n = 0 → q = some (vi (-6)) ∧ μ' = rfD μ (-6)) ∧ (n ≠ 0 → q = some (vi (rwA Z (μ 322) A (n / 4)).2) ∧ ∃ X, CTx X Z F (rwA Z (μ 322) A (n / 4)).1 w ∧ zfc [2, 4, 5, 6, 7] μ X ∧ μ' = zm (zm (zm (zm X 321 2 0) 0 16 (((n + 3) / 4 : Nat) - (rwA Z (μ 322) A (n / 4)).2)) 111 3 0) 0 15 0)) := by
  refine zSp.ss [vr 0, vx 0, vx 0, vx 0] rfl (w_D_row (Nat.le_trans (by decide) hd)) rfl rfl ?_
  (try simp only [zit_e, Bool.and_eq_true, Bool.or_eq_true, Bool.not_eq_true', Bool.and_eq_false_iff, Bool.or_eq_false_iff, Bool.not_eq_false', zbe, zdt, zdf, zb2_p, zbp_0, zbp_1, zbp_inj, zbp_01, Bool.true_eq_false, Bool.false_eq_true, true_and, and_true, Decidable.not_not, Classical.not_not, implies_true, List.nil_append, List.cons_append, List.append_assoc, Option.some.injEq, Sum.inl.injEq, zSw_c, zSw_n]); (try simp only [zit_e, Bool.and_eq_true, Bool.or_eq_true, Bool.not_eq_true', Bool.and_eq_false_iff, Bool.or_eq_false_iff, Bool.not_eq_false', zbe, zdt, zdf, zb2_p, zbp_0, zbp_1, zbp_inj, zbp_01, Bool.true_eq_false, Bool.false_eq_true, true_and, and_true, Decidable.not_not, Classical.not_not, implies_true, List.nil_append, List.cons_append, List.append_assoc, Option.some.injEq, Sum.inl.injEq, zSw_c, zSw_n, zc_0, zc_321]); (try simp only [zi_cs, zi_c0, zii_cs, zii_c0, zl_cs, zl_c0, zll_cs, zll_c0, zr_cs, zr_c0, zrr_cs, zrr_c0, zxs_cs, zxs_c0, zxx_cs, zxx_c0, zfree_c0, zfree_c1, zfree_cs, zfree_cz, zlong_i, zlong_r, zlong_x, zset_0, zset_s, true_and, and_true, Option.some.injEq, Sum.inl.injEq, Sum.inr.injEq, zb2_p, zbp_0, zbp_1, zbp_inj, zbp_01, Nat.zero_add, Nat.reduceAdd, implies_true, List.nil_append, List.cons_append, List.append_assoc, Int.not_lt, Int.not_le, Decidable.not_not, Int.zero_add, Int.reduceLE, Int.reduceLT, Int.reduceEq, Int.reduceNe, Int.reduceAdd, Int.reduceSub, Int.reduceMul, Int.reduceNeg, Int.reduceToNat, Nat.reduceMul, Nat.reduceLT, Nat.reduceEqDiff, and_self, ite_true, ite_false, zx1, zx2, zRecv, List.length_cons, List.length_nil, ne_eq, not_true_eq_false, not_false_eq_true, true_or, or_true, or_false, false_or, and_false, false_and, zf01, zf10, reduceCtorEq, zSw_c, zSw_n, zm_r, zit_T, zit_F, false_implies, true_implies, zc_0, zc_321])
  rw [hn]
  refine zif (fun c => ?_) (fun c => ?_)
  · exact rfD_w (by omega) (by decide) hr ⟨_, rfl, fun _ => ⟨rfl, rfl⟩, fun q => by omega⟩
  have hok := fun j => rwA_ok (B := μ 322) h.1 h.2.1 j
  refine zLoop.up ((n + 3) / 4) (fun j ρ μ1 => ρ = [vr 0, vi (rwA Z (μ 322) A (min j (n / 4))).2, vi ((j : Int) - (rwA Z (μ 322) A (min j (n / 4))).2), vi (4 * (j : Int))] ∧ CTx μ1 Z F (rwA Z (μ 322) A (min j (n / 4))).1 w ∧ zfc [2, 4, 5, 6, 7] μ μ1) ⟨?_, ?_, zfc.rf⟩ ?_
  · rw [Nat.zero_min]
    rfl
  · rw [Nat.zero_min]
    exact h
  rintro j ρ μ1 hj ⟨rfl, hC, hf⟩
  (try simp only [zit_e, Bool.and_eq_true, Bool.or_eq_true, Bool.not_eq_true', Bool.and_eq_false_iff, Bool.or_eq_false_iff, Bool.not_eq_false', zbe, zdt, zdf, zb2_p, zbp_0, zbp_1, zbp_inj, zbp_01, Bool.true_eq_false, Bool.false_eq_true, true_and, and_true, Decidable.not_not, Classical.not_not, implies_true, List.nil_append, List.cons_append, List.append_assoc, Option.some.injEq, Sum.inl.injEq, zSw_c, zSw_n]); (try simp only [zit_e, Bool.and_eq_true, Bool.or_eq_true, Bool.not_eq_true', Bool.and_eq_false_iff, Bool.or_eq_false_iff, Bool.not_eq_false', zbe, zdt, zdf, zb2_p, zbp_0, zbp_1, zbp_inj, zbp_01, Bool.true_eq_false, Bool.false_eq_true, true_and, and_true, Decidable.not_not, Classical.not_not, implies_true, List.nil_append, List.cons_append, List.append_assoc, Option.some.injEq, Sum.inl.injEq, zSw_c, zSw_n, zc_0, zc_321, zc_111]); (try simp only [zi_cs, zi_c0, zii_cs, zii_c0, zl_cs, zl_c0, zll_cs, zll_c0, zr_cs, zr_c0, zrr_cs, zrr_c0, zxs_cs, zxs_c0, zxx_cs, zxx_c0, zfree_c0, zfree_c1, zfree_cs, zfree_cz, zlong_i, zlong_r, zlong_x, zset_0, zset_s, true_and, and_true, Option.some.injEq, Sum.inl.injEq, Sum.inr.injEq, zb2_p, zbp_0, zbp_1, zbp_inj, zbp_01, Nat.zero_add, Nat.reduceAdd, implies_true, List.nil_append, List.cons_append, List.append_assoc, Int.not_lt, Int.not_le, Decidable.not_not, Int.zero_add, Int.reduceLE, Int.reduceLT, Int.reduceEq, Int.reduceNe, Int.reduceAdd, Int.reduceSub, Int.reduceMul, Int.reduceNeg, Int.reduceToNat, Nat.reduceMul, Nat.reduceLT, Nat.reduceEqDiff, and_self, ite_true, ite_false, zx1, zx2, zRecv, List.length_cons, List.length_nil, ne_eq, not_true_eq_false, not_false_eq_true, true_or, or_true, or_false, false_or, and_false, false_and, zf01, zf10, reduceCtorEq, zSw_c, zSw_n, zm_r, zit_T, zit_F, false_implies, true_implies, zc_0, zc_321, zc_111])
  rw [hf 321 (by decide), hn]
  have hj4 := hok (min j (n / 4))
  refine zif (fun c2 => ?_) (fun c2 => ?_)
  · refine zCw.use (q_D_rowDebt (d := 3) (by decide) hC (t := 4 * (j : Int)) (by omega) (by rw [hf 321 (by decide)]; omega) (by rw [hf 322 (by decide)]; exact hB)) (by omega) (fun q μ2 e => ?_)
    rw [hf 321 (by decide), hf 322 (by decide), hn] at e
    by_cases c3 : 4 * (j : Int) + 3 < n
    · have m1 : min j (n / 4) = j := by omega
      have m2 : min (j + 1) (n / 4) = j + 1 := by omega
      rw [m1] at e hj4 ⊢
      have hs := rwA_s (Z := Z) (B := μ 322) (A := A) (j := j)
      by_cases c4 : rwC Z (μ 322) (rwA Z (μ 322) A j).1 (4 * (j : Int)) < 0
      · obtain ⟨rfl, rfl⟩ := e.1 (by omega)
        refine ⟨_, rfl, ?_⟩
        rw [m1] at hC
        rw [if_neg (by omega)]
        refine ⟨by ((try simp only [zI_e]); (first | done | omega | skip)), by ((try simp only [zI_e]); (first | done | omega | skip)), znx (by omega) ⟨?_, ?_, hf⟩⟩
        · rw [m2, hs.1 c4, show (j : Int) - (rwA Z (μ 322) A j).2 + 1 = ((j + 1 : Nat) : Int) - (rwA Z (μ 322) A j).2 by omega, show 4 * (j : Int) + 4 = 4 * ((j + 1 : Nat) : Int) by omega]
        · rw [m2, hs.1 c4]
          exact hC
      · obtain ⟨rfl, hC2, hf2⟩ := e.2 (by omega)
        refine ⟨_, rfl, ?_⟩
        rw [if_pos (by omega)]
        refine ⟨by ((try simp only [zI_e]); (first | done | omega | skip)), by ((try simp only [zI_e]); (first | done | omega | skip)), znx (by omega) ⟨?_, ?_, (hf.tr hf2).mo (by simp)⟩⟩
        · rw [m2, hs.2 c4, show (j : Int) - (rwA Z (μ 322) A j).2 = ((j + 1 : Nat) : Int) - ((rwA Z (μ 322) A j).2 + 1) by omega, show 4 * (j : Int) + 4 = 4 * ((j + 1 : Nat) : Int) by omega]
        · rw [m2, hs.2 c4]
          exact hC2
    · have m1 : min j (n / 4) = n / 4 := by omega
      have m2 : min (j + 1) (n / 4) = n / 4 := by omega
      obtain ⟨rfl, rfl⟩ := e.1 (by omega)
      refine ⟨_, rfl, ?_⟩
      rw [m1] at hC hj4 ⊢
      rw [if_neg (by omega)]
      refine ⟨by ((try simp only [zI_e]); (first | done | omega | skip)), by ((try simp only [zI_e]); (first | done | omega | skip)), znx (by omega) ⟨?_, ?_, hf⟩⟩
      · rw [m2, show (j : Int) - (rwA Z (μ 322) A (n / 4)).2 + 1 = ((j + 1 : Nat) : Int) - (rwA Z (μ 322) A (n / 4)).2 by omega, show 4 * (j : Int) + 4 = 4 * ((j + 1 : Nat) : Int) by omega]
      · rw [m2]
        exact hC
  · have ej : j = (n + 3) / 4 := by omega
    have m1 : min j (n / 4) = n / 4 := by omega
    rw [m1] at hC ⊢
    exact fgD_w (by omega) ⟨rfl, acD_w (by omega) ⟨_, rfl, fun q => by omega, fun _ => ⟨rfl, μ1, hC, hf, by rw [ej]⟩⟩⟩
theorem lst6 {n a b c e : Int} {x y : zV} (h1 : a = b) (h2 : c = e) : [vr 355, vi n, vi a, vi c, x, y] = [vr 355, vi n, vi b, vi e, x, y] := by rw [h1, h2]
theorem q_M_row {d : Nat} (hd : 5 ≤ d) {μ : zMem} {Z : Zt} {F : Option (List Cls)} {A : Lg} {w B : Int → Int} {n : Nat} (h : MTx μ Z F A w) (hn : μ 355 11 = (n : Int)) (hn4 : n ≤ 400) (hB : ∀ i : Int, 0 ≤ i → i < 400 → (0 ≤ B i ∧ B i ≤ 255) ∧ μ 362 i = sgn (B i)) (hr : okR (μ 356)) : zSp d 0 0 y_M_row zT0 [vr 355] μ zT0 (fun q μ' => (n = 0 → q = some (vi (-6)) ∧ μ' = rfM (zm μ 355 11 0) (-6)) ∧ (n ≠ 0 → q = some (vi (rwA Z B A (n / 4)).2) ∧ ∃ X, MTx X Z F (rwA Z B A (n / 4)).1 w ∧ (∀ i : Int, 73 ≤ i → X 357 i = μ 357 i) ∧ (∀ i : Int, X 355 i = zit (i = 6) (((n + 3) / 4 : Nat) - (rwA Z B A (n / 4)).2) (zit (i = 11) 0 (μ 355 i))) ∧ zfc [355, 357] μ X ∧ μ' = zm (zm X 355 28 0) 355 0 0)) := by
  refine zSp.ss [vr 355, vx 0, vx 0, vx 0, vx 0, vx 0] rfl (w_M_row (Nat.le_trans (by decide) hd)) rfl rfl ?_
  (try simp only [zit_e, Bool.and_eq_true, Bool.or_eq_true, Bool.not_eq_true', Bool.and_eq_false_iff, Bool.or_eq_false_iff, Bool.not_eq_false', zbe, zdt, zdf, zb2_p, zbp_0, zbp_1, zbp_inj, zbp_01, Bool.true_eq_false, Bool.false_eq_true, true_and, and_true, Decidable.not_not, Classical.not_not, implies_true, List.nil_append, List.cons_append, List.append_assoc, Option.some.injEq, Sum.inl.injEq, zSw_c, zSw_n]); (try simp only [zit_e, Bool.and_eq_true, Bool.or_eq_true, Bool.not_eq_true', Bool.and_eq_false_iff, Bool.or_eq_false_iff, Bool.not_eq_false', zbe, zdt, zdf, zb2_p, zbp_0, zbp_1, zbp_inj, zbp_01, Bool.true_eq_false, Bool.false_eq_true, true_and, and_true, Decidable.not_not, Classical.not_not, implies_true, List.nil_append, List.cons_append, List.append_assoc, Option.some.injEq, Sum.inl.injEq, zSw_c, zSw_n, zc_355]); (try simp only [zi_cs, zi_c0, zii_cs, zii_c0, zl_cs, zl_c0, zll_cs, zll_c0, zr_cs, zr_c0, zrr_cs, zrr_c0, zxs_cs, zxs_c0, zxx_cs, zxx_c0, zfree_c0, zfree_c1, zfree_cs, zfree_cz, zlong_i, zlong_r, zlong_x, zset_0, zset_s, true_and, and_true, Option.some.injEq, Sum.inl.injEq, Sum.inr.injEq, zb2_p, zbp_0, zbp_1, zbp_inj, zbp_01, Nat.zero_add, Nat.reduceAdd, implies_true, List.nil_append, List.cons_append, List.append_assoc, Int.not_lt, Int.not_le, Decidable.not_not, Int.zero_add, Int.reduceLE, Int.reduceLT, Int.reduceEq, Int.reduceNe, Int.reduceAdd, Int.reduceSub, Int.reduceMul, Int.reduceNeg, Int.reduceToNat, Nat.reduceMul, Nat.reduceLT, Nat.reduceEqDiff, and_self, ite_true, ite_false, zx1, zx2, zRecv, List.length_cons, List.length_nil, ne_eq, not_true_eq_false, not_false_eq_true, true_or, or_true, or_false, false_or, and_false, false_and, zf01, zf10, reduceCtorEq, zSw_c, zSw_n, zm_r, zit_T, zit_F, false_implies, true_implies, zc_355])
  rw [hn]
  refine zif (fun c => ?_) (fun c => ?_)
  · exact rfM_w (by omega) (by decide) hr ⟨_, rfl, fun _ => ⟨rfl, rfl⟩, fun q => by omega⟩
  have hok := fun j => rwA_ok (B := B) h.1 h.2.1 j
  have hB2 : ∀ i : Int, 0 ≤ i → i < 400 → 0 ≤ B i ∧ B i ≤ 255 := fun i a b => (hB i a b).1
  refine zLoop.up (n / 4) (fun j ρ μ1 => ∃ x y : zV, ρ = [vr 355, vi n, vi (rwA Z B A j).2, vi (4 * (j : Int)), x, y] ∧ MTx μ1 Z F (rwA Z B A j).1 w ∧ (∀ i : Int, 73 ≤ i → μ1 357 i = μ 357 i) ∧ (∀ i : Int, μ1 355 i = zit (i = 6) (((n + 3) / 4 - n / 4 : Nat) + (j : Int) - (rwA Z B A j).2) (zit (i = 11) 0 (μ 355 i))) ∧ zfc [355, 357] μ μ1) ⟨_, _, rfl, ?_, fun i _ => ?_, fun i => ?_, ?_⟩ ?_
  · exact h.k (by rw [zm_off _ (by decide), zm_off _ (by decide)])
  · rw [zm_off _ (by decide), zm_off _ (by decide)]
  · have et : ((n : Int)).tmod 4 = (n : Int) % 4 := Int.tmod_eq_emod_of_nonneg (by omega)
    rw [et, zm_r, zit_t rfl, zm_r, zit_t rfl]
    congr 1
    show zit ((n : Int) % 4 = 0) 0 1 = ((n + 3) / 4 - n / 4 : Nat) + (0 : Nat) - (0 : Int)
    unfold zit
    split <;> omega
  · (repeat (first | exact zfc.rf | refine zfc.zm ?_ (by decide)))
  rintro j ρ μ1 hj ⟨x, y, rfl, hM, hκ, h5, hf⟩
  obtain ⟨n1, n2, n3, n4, n5, n6, n7⟩ := hM.n
  obtain ⟨k1, k2, k3⟩ := hok j
  have h6 : μ1 355 6 = ((n + 3) / 4 - n / 4 : Nat) + (j : Int) - (rwA Z B A j).2 := by rw [h5, zit_t rfl]
  (try simp only [zit_e, Bool.and_eq_true, Bool.or_eq_true, Bool.not_eq_true', Bool.and_eq_false_iff, Bool.or_eq_false_iff, Bool.not_eq_false', zbe, zdt, zdf, zb2_p, zbp_0, zbp_1, zbp_inj, zbp_01, Bool.true_eq_false, Bool.false_eq_true, true_and, and_true, Decidable.not_not, Classical.not_not, implies_true, List.nil_append, List.cons_append, List.append_assoc, Option.some.injEq, Sum.inl.injEq, zSw_c, zSw_n]); (try simp only [zit_e, Bool.and_eq_true, Bool.or_eq_true, Bool.not_eq_true', Bool.and_eq_false_iff, Bool.or_eq_false_iff, Bool.not_eq_false', zbe, zdt, zdf, zb2_p, zbp_0, zbp_1, zbp_inj, zbp_01, Bool.true_eq_false, Bool.false_eq_true, true_and, and_true, Decidable.not_not, Classical.not_not, implies_true, List.nil_append, List.cons_append, List.append_assoc, Option.some.injEq, Sum.inl.injEq, zSw_c, zSw_n, zc_355]); (try simp only [zi_cs, zi_c0, zii_cs, zii_c0, zl_cs, zl_c0, zll_cs, zll_c0, zr_cs, zr_c0, zrr_cs, zrr_c0, zxs_cs, zxs_c0, zxx_cs, zxx_c0, zfree_c0, zfree_c1, zfree_cs, zfree_cz, zlong_i, zlong_r, zlong_x, zset_0, zset_s, true_and, and_true, Option.some.injEq, Sum.inl.injEq, Sum.inr.injEq, zb2_p, zbp_0, zbp_1, zbp_inj, zbp_01, Nat.zero_add, Nat.reduceAdd, implies_true, List.nil_append, List.cons_append, List.append_assoc, Int.not_lt, Int.not_le, Decidable.not_not, Int.zero_add, Int.reduceLE, Int.reduceLT, Int.reduceEq, Int.reduceNe, Int.reduceAdd, Int.reduceSub, Int.reduceMul, Int.reduceNeg, Int.reduceToNat, Nat.reduceMul, Nat.reduceLT, Nat.reduceEqDiff, and_self, ite_true, ite_false, zx1, zx2, zRecv, List.length_cons, List.length_nil, ne_eq, not_true_eq_false, not_false_eq_true, true_or, or_true, or_false, false_or, and_false, false_and, zf01, zf10, reduceCtorEq, zSw_c, zSw_n, zm_r, zit_T, zit_F, false_implies, true_implies, zc_355])
  rw [hf 362 (by decide)]
  refine ⟨by ((try simp only [zI_e]); (first | done | omega | skip)), ?_⟩
  refine zif (fun c2 => ?_) (fun c2 => ?_)
  · have b0 := hB (4 * (j : Int)) (by omega) (by omega)
    have b1 := hB (4 * (j : Int) + 1) (by omega) (by omega)
    have b2 := hB (4 * (j : Int) + 2) (by omega) (by omega)
    have b3 := hB (4 * (j : Int) + 3) (by omega) (by omega)
    rw [b0.2, b1.2, b2.2, b3.2, zand_sgn b2.1, zand_sgn b3.1]
    have hsg := sgn_c (n := Z.1) (nd := ((rwA Z B A j).1.2.1.length : Int)) (a := B (4 * (j : Int))) (b := B (4 * (j : Int) + 1)) (m := B (4 * (j : Int) + 2) * 256 + B (4 * (j : Int) + 3)) h.1.1.2 b0.1 b1.1
    have ew : f_M_whyNot [vr 355, vi (sgn (B (4 * (j : Int)))), vi (sgn (B (4 * (j : Int) + 1))), vi (B (4 * (j : Int) + 2) * 256 + B (4 * (j : Int) + 3))] μ1 = rwC Z B (rwA Z B A j).1 (4 * (j : Int)) := by
      unfold rwC
      rw [← hsg.1, ← n2, ← n6]
      exact debtC_f.symm
    rw [ew]
    have hin := debtC_in (n := Z.1) (nd := ((rwA Z B A j).1.2.1.length : Int)) (a := B (4 * (j : Int))) (b := B (4 * (j : Int) + 1)) (m := B (4 * (j : Int) + 2) * 256 + B (4 * (j : Int) + 3))
    have hin : -6 ≤ rwC Z B (rwA Z B A j).1 (4 * (j : Int)) ∧ rwC Z B (rwA Z B A j).1 (4 * (j : Int)) ≤ 0 := hin
    have hs := rwA_s (Z := Z) (B := B) (A := A) (j := j)
    have hk1 := hok (j + 1)
    refine ⟨⟨⟨⟨by ((try simp only [zI_e]); (first | done | omega | skip)), by omega, by omega⟩, by ((try simp only [zI_e]); (first | done | omega | skip))⟩, ⟨by ((try simp only [zI_e]); (first | done | omega | skip)), by omega, by omega⟩, by ((try simp only [zI_e]); (first | done | omega | skip))⟩, ⟨⟨⟨by omega, by omega⟩, by ((try simp only [zI_e]); (first | done | omega | skip)), by omega, by omega⟩, rfl, n1, n5⟩, ?_⟩
    refine zif (fun c3 => ?_) (fun c3 => ?_)
    · have c4 : ¬ rwC Z B (rwA Z B A j).1 (4 * (j : Int)) < 0 := by omega
      obtain ⟨g1, g2, g3, g4⟩ := debtC_0 h.1.1.2 (Int.not_lt.mp c4)
      have hsg2 := hsg.2 (Int.not_lt.mp c4)
      rw [hsg2.1, hsg2.2, zit_t c3, zit_t c3]
      refine ⟨⟨⟨by omega, by omega⟩, by ((try simp only [zI_e]); (first | done | omega | skip)), by omega, by omega⟩, ?_⟩
      refine zCw.use (q_M_adds (d := 2) (by decide) (by omega)) (by omega) (fun q Y e => ?_)
      obtain ⟨rfl, e1, e2, e3, e4⟩ := e
      rw [hs.2 c4] at hk1
      rw [e4 355 (by decide), h6]
      refine ⟨rfl, by ((try simp only [zI_e]); (first | done | omega | skip)), by ((try simp only [zI_e]); (first | done | omega | skip)), by ((try simp only [zI_e]); (first | done | omega | skip)), znx (by omega) ⟨_, _, lst6 (by rw [hs.2 c4]) (by omega), ?_, fun i hi => ?_, fun i => ?_, ((hf.tr e4).mo (by simp)).zm (by decide)⟩⟩
      · rw [hs.2 c4]
        refine (hM.up (rwX_ok h.1 k1 (Int.not_lt.mp c4)) (lgM_is ?_ ?_ ?_) (by omega) (fun i hi => e3 i (by omega))).k (zm_off _ (by decide))
        · exact (tL_congr (fun i a b => e3 i (by omega))).trans n7
        · rw [e1, n3, n4]
          rfl
        · rw [e3 72 (by omega), n4]
          rfl
      · rw [e3 i (by omega)]
        exact hκ i hi
      · rw [hs.2 c4, h5]
        by_cases e6 : i = 6
        · rw [zit_t e6, zit_t e6]
          show _ = _ + ((j + 1 : Nat) : Int) - ((rwA Z B A j).2 + 1)
          omega
        · rw [zit_f e6, zit_f e6, zit_f e6]
    · have c4 : rwC Z B (rwA Z B A j).1 (4 * (j : Int)) < 0 := by omega
      rw [zit_f c3, zit_f c3, h6]
      rw [hs.1 c4] at hk1
      refine ⟨by ((try simp only [zI_e]); (first | done | omega | skip)), by ((try simp only [zI_e]); (first | done | omega | skip)), by ((try simp only [zI_e]); (first | done | omega | skip)), znx (by omega) ⟨_, _, lst6 (by rw [hs.1 c4, Int.add_zero]) (by omega), ?_, fun i hi => ?_, fun i => ?_, hf.zm (by decide)⟩⟩
      · rw [hs.1 c4]
        exact hM.k (zm_off _ (by decide))
      · exact hκ i hi
      · rw [hs.1 c4, h5]
        by_cases e6 : i = 6
        · rw [zit_t e6, zit_t e6]
          omega
        · rw [zit_f e6, zit_f e6, zit_f e6]
  · have ej : j = n / 4 := by omega
    subst ej
    refine seM_w (by omega) ⟨_, rfl, fun q => by omega, fun _ => ⟨rfl, μ1, hM, hκ, fun i => ?_, hf, rfl⟩⟩
    rw [h5]
    congr 1
    omega
/-- the reference's field 355, else another memory -/
def pxM (b Y : zMem) : zMem := fun c => if c = 355 then b c else Y c
theorem LC_row : LC y_D_row y_M_row [] := LC.mk (fun k μ h0 h1 hJ => by
  obtain ⟨n, t1, t2, t3, t4, t5, t6⟩ := hJ.2.2.2.1
  obtain ⟨Z, F, A, w, hC, hM⟩ := hJ.ctx
  have hr := hJ.rD h0 h1
  have sD := q_D_row (d := 5) (by decide) hC t1 t3 (fun i a b => (t4 i a b).1) hr
  have sM : ∀ μ1, HM μ μ1 → _ := fun μ1 hm => q_M_row (d := 5) (μ := μ1) (B := μ 322) (n := n) (by decide) (hM.k (hm 357 (by decide))) (by rw [hm 355 (by decide)]; exact t2) t3 (fun i a b => by rw [hm 362 (by decide)]; exact t4 i a b) (hJ.rM h0 h1 hm)
  by_cases cn : n = 0
  · refine ⟨0, fun v μ1 => v = -6 ∧ μ1 = rfD μ (-6), fun μ1 v μ2 => v = -6 ∧ μ2 = rfM (zm μ1 355 11 0) (-6), by decide, ?_, ?_, ?_⟩
    · refine zCw.use sD (by decide) (fun q μ1 e => ?_)
      obtain ⟨rfl, rfl⟩ := e.1 cn
      exact OD.yes (by decide) HM_rfD ⟨rfl, rfl⟩
    · intro μ1 hm
      refine zCw.use (sM μ1 hm) (by decide) (fun q μ2 e => ?_)
      obtain ⟨rfl, rfl⟩ := e.1 cn
      exact OM.yes (by decide) ((HC.rf.sm (by decide)).tr HC_rfM) ⟨rfl, rfl⟩
    · rintro - v1 v2 μ1 μ2 hm ⟨rfl, eD⟩ hc ⟨rfl, rfl⟩
      refine ⟨rfl, JJ.eqD eD ?_⟩
      have hz : zm μ 321 2 0 = μ := by
        funext c i
        rw [zm_r]
        unfold zit
        split
        · next e1 =>
          split
          · next e2 =>
            rw [e1, e2, t1, cn]
            rfl
          · rfl
        · rfl
      have := JJ.no (c := -6) (JJ.em (hJ.m HC.rf hm)) (by decide)
      rw [hz] at this
      exact this
  · refine ⟨0, fun v μ1 => v = (rwA Z (μ 322) A (n / 4)).2 ∧ ∃ X, CTx X Z F (rwA Z (μ 322) A (n / 4)).1 w ∧ zfc [2, 4, 5, 6, 7] μ X ∧ μ1 = zm (zm (zm (zm X 321 2 0) 0 16 (((n + 3) / 4 : Nat) - (rwA Z (μ 322) A (n / 4)).2)) 111 3 0) 0 15 0, fun μ1 v μ2 => v = (rwA Z (μ 322) A (n / 4)).2 ∧ ∃ X, MTx X Z F (rwA Z (μ 322) A (n / 4)).1 w ∧ (∀ i : Int, 73 ≤ i → X 357 i = μ1 357 i) ∧ (∀ i : Int, X 355 i = zit (i = 6) (((n + 3) / 4 : Nat) - (rwA Z (μ 322) A (n / 4)).2) (zit (i = 11) 0 (μ1 355 i))) ∧ zfc [355, 357] μ1 X ∧ μ2 = zm (zm X 355 28 0) 355 0 0, by decide, ?_, ?_, ?_⟩
    · refine zCw.use sD (by decide) (fun q μ1 e => ?_)
      obtain ⟨rfl, X, g1, g2, rfl⟩ := e.2 cn
      exact OD.yes (by decide) (((((g2.hm (by simp)).sm (by omega)).sm (by omega)).sm (by omega)).sm (by omega)) ⟨rfl, X, g1, g2, rfl⟩
    · intro μ1 hm
      refine zCw.use (sM μ1 hm) (by decide) (fun q μ2 e => ?_)
      obtain ⟨rfl, X, g1, g2, g3, g4, rfl⟩ := e.2 cn
      exact OM.yes (by decide) (((g4.hc (by simp)).sm (by omega)).sm (by omega)) ⟨rfl, X, g1, g2, g3, g4, rfl⟩
    · rintro - v1 v2 μ1 μ2 hm ⟨rfl, X, x1, x2, eD⟩ hc ⟨rfl, Y, y1, y2, y3, y4, rfl⟩
      have hJ1 := hJ.m HC.rf hm
      have hk := rwA_ok (B := μ 322) hC.1 hC.2.1 (n / 4)
      refine ⟨rfl, JJ.eqD eD ?_⟩
      have hT : TJ X (pxM μ1 Y 357) := hJ1.1.lg (b' := pxM μ1 Y) (A := (rwA Z (μ 322) A (n / 4)).1) (fun c hc => x2 c (by simp only [List.mem_cons, List.not_mem_nil, or_false]; omega)) (fun i hi => y2 i hi) hk.1 x1.2.2.2.1.1 x1.2.2.2.1.2 y1.2.2.2.1.1 y1.2.2.2.1.2
      have hJ2 : JJ k X (pxM μ1 Y) := hJ1.tw hT (x2.kt (by simp)) ⟨fun c p q r => by unfold pxM; rw [if_neg (by omega)]; exact y4 c (by simp only [List.mem_cons, List.not_mem_nil, or_false]; omega), fun j _ => by unfold pxM; rw [if_pos rfl]⟩
      refine (((hJ2.em.bl rfl).fo.ok (by omega) rfl)).m HC.rf (fun c hc => ?_)
      funext i
      by_cases e5 : c = 355
      · subst e5
        simp only [zm_r, zit_T, y3]
        unfold pxM
        rw [if_pos rfl]
      · simp only [zm_r, zit_f e5]
        unfold pxM
        rw [if_neg e5])

