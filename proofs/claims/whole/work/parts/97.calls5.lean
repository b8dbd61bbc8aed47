/-! cancel, sweep, terms -/
theorem JJ.up {k l : Int} {a b : zMem} (h : JJ k a b) (hk : k ≤ l) : JJ l a b := h.t hk KC.rf KM.rf
def y_D_cancel : zMt := (⟨"DebtDoors", "cancel", "()I"⟩, prog_1_method_42_code, 2, some .int)
theorem d_D_cancel_0 : decode prog_1_method_42_code 0 = .ok (.aload_n 0, 1) := by decide +kernel
theorem d_D_cancel_1 : decode prog_1_method_42_code 1 = .ok (.getfield 12, 3) := by decide +kernel
theorem d_D_cancel_4 : decode prog_1_method_42_code 4 = .ok (.getfield 337, 3) := by decide +kernel
theorem d_D_cancel_7 : decode prog_1_method_42_code 7 = .ok (.istore_n 1, 1) := by decide +kernel
theorem d_D_cancel_8 : decode prog_1_method_42_code 8 = .ok (.aload_n 0, 1) := by decide +kernel
theorem d_D_cancel_9 : decode prog_1_method_42_code 9 = .ok (.getfield 12, 3) := by decide +kernel
theorem d_D_cancel_12 : decode prog_1_method_42_code 12 = .ok (.iconst 0, 1) := by decide +kernel
theorem d_D_cancel_13 : decode prog_1_method_42_code 13 = .ok (.putfield 337, 3) := by decide +kernel
theorem d_D_cancel_16 : decode prog_1_method_42_code 16 = .ok (.iload_n 1, 1) := by decide +kernel
theorem d_D_cancel_17 : decode prog_1_method_42_code 17 = .ok (.ireturn, 1) := by decide +kernel
def w_D_cancel {d : Nat} (hd : 1 ≤ d) := (show SS ("DebtDoors", prog_1_method_42_code, 2) (some .int) d 0 0 0 0 _ from (sS (p1 := 8) (sIn 1 (xE (rF 8 fl_D_337 nk_9_8 (rFr fl_D_12 nk_11_0 (rAn 0 d_D_cancel_0 rfl) d_D_cancel_1) d_D_cancel_4 rfl)) d_D_cancel_7 rfl (by decide)) (sS (p1 := 16) (sP 8 fl_D_337 fp_9_8 nk_9_8 (rFr fl_D_12 nk_11_0 (rAn 0 d_D_cancel_8 rfl) d_D_cancel_9) (xE (rI d_D_cancel_12 rfl)) d_D_cancel_13 rfl) (sRi (xE (rIn 1 d_D_cancel_16 rfl)) d_D_cancel_17 rfl))))
def y_D_sweep : zMt := (⟨"DebtDoors", "sweep", "()I"⟩, prog_1_method_57_code, 2, some .int)
theorem d_D_sweep_0 : decode prog_1_method_57_code 0 = .ok (.aload_n 0, 1) := by decide +kernel
theorem d_D_sweep_1 : decode prog_1_method_57_code 1 = .ok (.getfield 12, 3) := by decide +kernel
theorem d_D_sweep_4 : decode prog_1_method_57_code 4 = .ok (.getfield 399, 3) := by decide +kernel
theorem d_D_sweep_7 : decode prog_1_method_57_code 7 = .ok (.istore_n 1, 1) := by decide +kernel
theorem d_D_sweep_8 : decode prog_1_method_57_code 8 = .ok (.aload_n 0, 1) := by decide +kernel
theorem d_D_sweep_9 : decode prog_1_method_57_code 9 = .ok (.getfield 12, 3) := by decide +kernel
theorem d_D_sweep_12 : decode prog_1_method_57_code 12 = .ok (.iconst 0, 1) := by decide +kernel
theorem d_D_sweep_13 : decode prog_1_method_57_code 13 = .ok (.putfield 399, 3) := by decide +kernel
theorem d_D_sweep_16 : decode prog_1_method_57_code 16 = .ok (.iload_n 1, 1) := by decide +kernel
theorem d_D_sweep_17 : decode prog_1_method_57_code 17 = .ok (.ireturn, 1) := by decide +kernel
def w_D_sweep {d : Nat} (hd : 1 ≤ d) := (show SS ("DebtDoors", prog_1_method_57_code, 2) (some .int) d 0 0 0 0 _ from (sS (p1 := 8) (sIn 1 (xE (rF 9 fl_D_399 nk_9_9 (rFr fl_D_12 nk_11_0 (rAn 0 d_D_sweep_0 rfl) d_D_sweep_1) d_D_sweep_4 rfl)) d_D_sweep_7 rfl (by decide)) (sS (p1 := 16) (sP 9 fl_D_399 fp_9_9 nk_9_9 (rFr fl_D_12 nk_11_0 (rAn 0 d_D_sweep_8 rfl) d_D_sweep_9) (xE (rI d_D_sweep_12 rfl)) d_D_sweep_13 rfl) (sRi (xE (rIn 1 d_D_sweep_16 rfl)) d_D_sweep_17 rfl))))
def y_M_goAll : zMt := (⟨"DebtDoorsModel", "goAll", "(I)I"⟩, prog_14_method_105_code, 3, some .int)
theorem d_M_goAll_0 : decode prog_14_method_105_code 0 = .ok (.aload_n 0, 1) := by decide +kernel
theorem d_M_goAll_1 : decode prog_14_method_105_code 1 = .ok (.getfield 24, 3) := by decide +kernel
theorem d_M_goAll_4 : decode prog_14_method_105_code 4 = .ok (.iload_n 1, 1) := by decide +kernel
theorem d_M_goAll_5 : decode prog_14_method_105_code 5 = .ok (.iaload, 1) := by decide +kernel
theorem d_M_goAll_6 : decode prog_14_method_105_code 6 = .ok (.istore_n 2, 1) := by decide +kernel
theorem d_M_goAll_7 : decode prog_14_method_105_code 7 = .ok (.aload_n 0, 1) := by decide +kernel
theorem d_M_goAll_8 : decode prog_14_method_105_code 8 = .ok (.getfield 24, 3) := by decide +kernel
theorem d_M_goAll_11 : decode prog_14_method_105_code 11 = .ok (.iload_n 1, 1) := by decide +kernel
theorem d_M_goAll_12 : decode prog_14_method_105_code 12 = .ok (.iconst 0, 1) := by decide +kernel
theorem d_M_goAll_13 : decode prog_14_method_105_code 13 = .ok (.iastore, 1) := by decide +kernel
theorem d_M_goAll_14 : decode prog_14_method_105_code 14 = .ok (.iload_n 2, 1) := by decide +kernel
theorem d_M_goAll_15 : decode prog_14_method_105_code 15 = .ok (.ireturn, 1) := by decide +kernel
def w_M_goAll {d : Nat} (hd : 1 ≤ d) := (show SS ("DebtDoorsModel", prog_14_method_105_code, 3) (some .int) d 0 0 0 0 _ from (sS (p1 := 7) (sIn 2 (xE (rIa (rFr fl_M_24 nk_12_2 (rAn 0 d_M_goAll_0 rfl) d_M_goAll_1) (rIn 1 d_M_goAll_4 rfl) d_M_goAll_5)) d_M_goAll_6 rfl (by decide)) (sS (p1 := 14) (sAs (rFr fl_M_24 nk_12_2 (rAn 0 d_M_goAll_7 rfl) d_M_goAll_8) (rIn 1 d_M_goAll_11 rfl) (xE (rI d_M_goAll_12 rfl)) d_M_goAll_13) (sRi (xE (rIn 2 d_M_goAll_14 rfl)) d_M_goAll_15 rfl))))
theorem m_M_goAll : Cond.instanceMethod y_M_goAll.1 ∈ zTb ∧ Cond.selects y_M_goAll.1.cls y_M_goAll.1 y_M_goAll.1 ∈ zTb ∧ Cond.initialized y_M_goAll.1.cls ∈ zTb ∧ Cond.code y_M_goAll.1 y_M_goAll.2.1 y_M_goAll.2.2.1 y_M_goAll.2.2.2 ∈ zTb ∧ (y_M_goAll.1.cls ≠ "java/lang/invoke/MethodHandle" ∧ y_M_goAll.1.cls ≠ "java/lang/invoke/VarHandle" ∧ (parseMethodDescriptor y_M_goAll.1.desc).map (fun d => d.parameters.length) = some 1) ∧ y_M_goAll.2.2.1 ≤ 20 :=
  ⟨(zTb_in 1908 (by decide +kernel) (by decide +kernel)), (List.mem_filter.mpr ⟨List.mem_append_left _ (by decide +kernel), by decide +kernel⟩), (zTb_in 151 (by decide +kernel) (by decide +kernel)), (zTb_in 1909 (by decide +kernel) (by decide +kernel)), by decide +kernel, by decide +kernel⟩
theorem lv_M_397 : zLv "DebtDoorsModel" 397 y_M_goAll 1 12 := ⟨⟨(zTb_in 1906 (by decide +kernel) (by decide +kernel)), m_M_goAll.1, m_M_goAll.2.1, m_M_goAll.2.2⟩, _, rfl, rfl⟩
def y_M_cancel : zMt := (⟨"DebtDoorsModel", "cancel", "()I"⟩, prog_14_method_106_code, 1, some .int)
theorem d_M_cancel_0 : decode prog_14_method_106_code 0 = .ok (.aload_n 0, 1) := by decide +kernel
theorem d_M_cancel_1 : decode prog_14_method_106_code 1 = .ok (.sipush 153, 3) := by decide +kernel
theorem d_M_cancel_4 : decode prog_14_method_106_code 4 = .ok (.invokevirtual 397, 3) := by decide +kernel
theorem d_M_cancel_7 : decode prog_14_method_106_code 7 = .ok (.ireturn, 1) := by decide +kernel
def w_M_cancel {d : Nat} (hd : 1 ≤ d) := (show SS ("DebtDoorsModel", prog_14_method_106_code, 1) (some .int) d 0 0 0 0 _ from (sRi (xV lv_M_397 (xA (rAi (rAr rA0 (rAn 0 d_M_cancel_0 rfl)) (rSi d_M_cancel_1 rfl))) (by decide) d_M_cancel_4) d_M_cancel_7 rfl))
def y_M_sweep : zMt := (⟨"DebtDoorsModel", "sweep", "()I"⟩, prog_14_method_131_code, 1, some .int)
theorem d_M_sweep_0 : decode prog_14_method_131_code 0 = .ok (.aload_n 0, 1) := by decide +kernel
theorem d_M_sweep_1 : decode prog_14_method_131_code 1 = .ok (.sipush 154, 3) := by decide +kernel
theorem d_M_sweep_4 : decode prog_14_method_131_code 4 = .ok (.invokevirtual 397, 3) := by decide +kernel
theorem d_M_sweep_7 : decode prog_14_method_131_code 7 = .ok (.ireturn, 1) := by decide +kernel
def w_M_sweep {d : Nat} (hd : 1 ≤ d) := (show SS ("DebtDoorsModel", prog_14_method_131_code, 1) (some .int) d 0 0 0 0 _ from (sRi (xV lv_M_397 (xA (rAi (rAr rA0 (rAn 0 d_M_sweep_0 rfl)) (rSi d_M_sweep_1 rfl))) (by decide) d_M_sweep_4) d_M_sweep_7 rfl))
theorem fp_9_7 : zFp 9 7 0 := ⟨_, rfl, rfl, rfl, by decide⟩
def y_D_terms : zMt := (⟨"DebtDoors", "terms", "(II)I"⟩, prog_1_method_10_code, 4, some .int)
theorem d_D_terms_0 : decode prog_1_method_10_code 0 = .ok (.iload_n 1, 1) := by decide +kernel
theorem d_D_terms_1 : decode prog_1_method_10_code 1 = .ok (.ifCond .ne 39, 3) := by decide +kernel
theorem d_D_terms_4 : decode prog_1_method_10_code 4 = .ok (.iload_n 2, 1) := by decide +kernel
theorem d_D_terms_5 : decode prog_1_method_10_code 5 = .ok (.iconst 0, 1) := by decide +kernel
theorem d_D_terms_6 : decode prog_1_method_10_code 6 = .ok (.sipush 999, 3) := by decide +kernel
theorem d_D_terms_9 : decode prog_1_method_10_code 9 = .ok (.invokestatic 104, 3) := by decide +kernel
theorem d_D_terms_12 : decode prog_1_method_10_code 12 = .ok (.ifCond .eq 28, 3) := by decide +kernel
theorem d_D_terms_15 : decode prog_1_method_10_code 15 = .ok (.aload_n 0, 1) := by decide +kernel
theorem d_D_terms_16 : decode prog_1_method_10_code 16 = .ok (.getfield 12, 3) := by decide +kernel
theorem d_D_terms_19 : decode prog_1_method_10_code 19 = .ok (.getfield 115, 3) := by decide +kernel
theorem d_D_terms_22 : decode prog_1_method_10_code 22 = .ok (.getfield 179, 3) := by decide +kernel
theorem d_D_terms_25 : decode prog_1_method_10_code 25 = .ok (.istore_n 3, 1) := by decide +kernel
theorem d_D_terms_26 : decode prog_1_method_10_code 26 = .ok (.aload_n 0, 1) := by decide +kernel
theorem d_D_terms_27 : decode prog_1_method_10_code 27 = .ok (.getfield 12, 3) := by decide +kernel
theorem d_D_terms_30 : decode prog_1_method_10_code 30 = .ok (.getfield 115, 3) := by decide +kernel
theorem d_D_terms_33 : decode prog_1_method_10_code 33 = .ok (.iload_n 2, 1) := by decide +kernel
theorem d_D_terms_34 : decode prog_1_method_10_code 34 = .ok (.putfield 179, 3) := by decide +kernel
theorem d_D_terms_37 : decode prog_1_method_10_code 37 = .ok (.goto 43, 3) := by decide +kernel
theorem d_D_terms_40 : decode prog_1_method_10_code 40 = .ok (.iload_n 1, 1) := by decide +kernel
theorem d_D_terms_41 : decode prog_1_method_10_code 41 = .ok (.iconst 1, 1) := by decide +kernel
theorem d_D_terms_42 : decode prog_1_method_10_code 42 = .ok (.if_icmp .ne 32, 3) := by decide +kernel
theorem d_D_terms_45 : decode prog_1_method_10_code 45 = .ok (.iload_n 2, 1) := by decide +kernel
theorem d_D_terms_46 : decode prog_1_method_10_code 46 = .ok (.iconst 0, 1) := by decide +kernel
theorem d_D_terms_47 : decode prog_1_method_10_code 47 = .ok (.bipush 9, 2) := by decide +kernel
theorem d_D_terms_49 : decode prog_1_method_10_code 49 = .ok (.invokestatic 104, 3) := by decide +kernel
theorem d_D_terms_52 : decode prog_1_method_10_code 52 = .ok (.ifCond .eq 22, 3) := by decide +kernel
theorem d_D_terms_55 : decode prog_1_method_10_code 55 = .ok (.aload_n 0, 1) := by decide +kernel
theorem d_D_terms_56 : decode prog_1_method_10_code 56 = .ok (.getfield 12, 3) := by decide +kernel
theorem d_D_terms_59 : decode prog_1_method_10_code 59 = .ok (.getfield 182, 3) := by decide +kernel
theorem d_D_terms_62 : decode prog_1_method_10_code 62 = .ok (.istore_n 3, 1) := by decide +kernel
theorem d_D_terms_63 : decode prog_1_method_10_code 63 = .ok (.aload_n 0, 1) := by decide +kernel
theorem d_D_terms_64 : decode prog_1_method_10_code 64 = .ok (.getfield 12, 3) := by decide +kernel
theorem d_D_terms_67 : decode prog_1_method_10_code 67 = .ok (.iload_n 2, 1) := by decide +kernel
theorem d_D_terms_68 : decode prog_1_method_10_code 68 = .ok (.putfield 182, 3) := by decide +kernel
theorem d_D_terms_71 : decode prog_1_method_10_code 71 = .ok (.goto 9, 3) := by decide +kernel
theorem d_D_terms_74 : decode prog_1_method_10_code 74 = .ok (.aload_n 0, 1) := by decide +kernel
theorem d_D_terms_75 : decode prog_1_method_10_code 75 = .ok (.iconst (-1), 1) := by decide +kernel
theorem d_D_terms_76 : decode prog_1_method_10_code 76 = .ok (.invokevirtual 108, 3) := by decide +kernel
theorem d_D_terms_79 : decode prog_1_method_10_code 79 = .ok (.ireturn, 1) := by decide +kernel
theorem d_D_terms_80 : decode prog_1_method_10_code 80 = .ok (.aload_n 0, 1) := by decide +kernel
theorem d_D_terms_81 : decode prog_1_method_10_code 81 = .ok (.getfield 34, 3) := by decide +kernel
theorem d_D_terms_84 : decode prog_1_method_10_code 84 = .ok (.invokevirtual 127, 3) := by decide +kernel
theorem d_D_terms_87 : decode prog_1_method_10_code 87 = .ok (.aload_n 0, 1) := by decide +kernel
theorem d_D_terms_88 : decode prog_1_method_10_code 88 = .ok (.iload_n 3, 1) := by decide +kernel
theorem d_D_terms_89 : decode prog_1_method_10_code 89 = .ok (.invokevirtual 130, 3) := by decide +kernel
theorem d_D_terms_92 : decode prog_1_method_10_code 92 = .ok (.ireturn, 1) := by decide +kernel
def w_D_terms {d : Nat} (hd : 2 ≤ d) := (show SS ("DebtDoors", prog_1_method_10_code, 4) (some .int) d 0 0 0 0 _ from (sS (p1 := 80) (sIe (pn := 80) (tt := 15) (ff := 40) (xC (rAnd (mm := 4) (rNot (rJ1 (tgt := 40) k_ne (rIn 1 d_D_terms_0 rfl) d_D_terms_1 (by decide))) (rNot (rJ1 (tgt := 40) k_eq (rS p_D_between (Nat.le_trans (Nat.le_of_ble_eq_true rfl) hd) ls_D_104 (rAi (rAi (rAi rA0 (rIn 2 d_D_terms_4 rfl)) (rI d_D_terms_5 rfl)) (rSi d_D_terms_6 rfl)) (by decide) d_D_terms_9) d_D_terms_12 (by decide))))) (sS (p1 := 26) (sIn 3 (xE (rF 6 fl_D_179 nk_1_6 (rFr fl_D_115 nk_9_0 (rFr fl_D_12 nk_11_0 (rAn 0 d_D_terms_15 rfl) d_D_terms_16) d_D_terms_19) d_D_terms_22 rfl)) d_D_terms_25 rfl (by decide)) (sGo (pn := 80) (sP 6 fl_D_179 fp_1_6 nk_1_6 (rFr fl_D_115 nk_9_0 (rFr fl_D_12 nk_11_0 (rAn 0 d_D_terms_26 rfl) d_D_terms_27) d_D_terms_30) (xE (rIn 2 d_D_terms_33 rfl)) d_D_terms_34 rfl) d_D_terms_37 (by decide))) (sIe (pn := 80) (tt := 55) (ff := 74) (xC (rAnd (mm := 45) (rNot (rJ2 (tgt := 74) j_ne (rIn 1 d_D_terms_40 rfl) (rI d_D_terms_41 rfl) d_D_terms_42 (by decide))) (rNot (rJ1 (tgt := 74) k_eq (rS p_D_between (Nat.le_trans (Nat.le_of_ble_eq_true rfl) hd) ls_D_104 (rAi (rAi (rAi rA0 (rIn 2 d_D_terms_45 rfl)) (rI d_D_terms_46 rfl)) (rB d_D_terms_47 rfl)) (by decide) d_D_terms_49) d_D_terms_52 (by decide))))) (sS (p1 := 63) (sIn 3 (xE (rF 7 fl_D_182 nk_9_7 (rFr fl_D_12 nk_11_0 (rAn 0 d_D_terms_55 rfl) d_D_terms_56) d_D_terms_59 rfl)) d_D_terms_62 rfl (by decide)) (sGo (pn := 80) (sP 7 fl_D_182 fp_9_7 nk_9_7 (rFr fl_D_12 nk_11_0 (rAn 0 d_D_terms_63 rfl) d_D_terms_64) (xE (rIn 2 d_D_terms_67 rfl)) d_D_terms_68 rfl) d_D_terms_71 (by decide))) (sRi (xV lv_D_108 (xA (rAi (rAr rA0 (rAn 0 d_D_terms_74 rfl)) (rI d_D_terms_75 rfl))) (by decide) d_D_terms_76) d_D_terms_79 rfl))) (sS (p1 := 87) (sV (xVv lv_D_127 (xA (rAr rA0 (rFr fl_D_34 nk_11_4 (rAn 0 d_D_terms_80 rfl) d_D_terms_81))) (by decide) d_D_terms_84)) (sRi (xV lv_D_130 (xA (rAi (rAr rA0 (rAn 0 d_D_terms_87 rfl)) (rIn 3 d_D_terms_88 rfl))) (by decide) d_D_terms_89) d_D_terms_92 rfl))))
def y_M_terms : zMt := (⟨"DebtDoorsModel", "terms", "(II)I"⟩, prog_14_method_32_code, 5, some .int)
theorem d_M_terms_0 : decode prog_14_method_32_code 0 = .ok (.iload_n 1, 1) := by decide +kernel
theorem d_M_terms_1 : decode prog_14_method_32_code 1 = .ok (.iconst 0, 1) := by decide +kernel
theorem d_M_terms_2 : decode prog_14_method_32_code 2 = .ok (.iconst 1, 1) := by decide +kernel
theorem d_M_terms_3 : decode prog_14_method_32_code 3 = .ok (.invokestatic 123, 3) := by decide +kernel
theorem d_M_terms_6 : decode prog_14_method_32_code 6 = .ok (.ifCond .eq 23, 3) := by decide +kernel
theorem d_M_terms_9 : decode prog_14_method_32_code 9 = .ok (.iload_n 2, 1) := by decide +kernel
theorem d_M_terms_10 : decode prog_14_method_32_code 10 = .ok (.iconst 0, 1) := by decide +kernel
theorem d_M_terms_11 : decode prog_14_method_32_code 11 = .ok (.iload_n 1, 1) := by decide +kernel
theorem d_M_terms_12 : decode prog_14_method_32_code 12 = .ok (.ifCond .ne 9, 3) := by decide +kernel
theorem d_M_terms_15 : decode prog_14_method_32_code 15 = .ok (.sipush 999, 3) := by decide +kernel
theorem d_M_terms_18 : decode prog_14_method_32_code 18 = .ok (.goto 5, 3) := by decide +kernel
theorem d_M_terms_21 : decode prog_14_method_32_code 21 = .ok (.bipush 9, 2) := by decide +kernel
theorem d_M_terms_23 : decode prog_14_method_32_code 23 = .ok (.invokestatic 123, 3) := by decide +kernel
theorem d_M_terms_26 : decode prog_14_method_32_code 26 = .ok (.ifCond .ne 9, 3) := by decide +kernel
theorem d_M_terms_29 : decode prog_14_method_32_code 29 = .ok (.aload_n 0, 1) := by decide +kernel
theorem d_M_terms_30 : decode prog_14_method_32_code 30 = .ok (.iconst (-1), 1) := by decide +kernel
theorem d_M_terms_31 : decode prog_14_method_32_code 31 = .ok (.invokevirtual 127, 3) := by decide +kernel
theorem d_M_terms_34 : decode prog_14_method_32_code 34 = .ok (.ireturn, 1) := by decide +kernel
theorem d_M_terms_35 : decode prog_14_method_32_code 35 = .ok (.iload_n 1, 1) := by decide +kernel
theorem d_M_terms_36 : decode prog_14_method_32_code 36 = .ok (.ifCond .ne 8, 3) := by decide +kernel
theorem d_M_terms_39 : decode prog_14_method_32_code 39 = .ok (.bipush 72, 2) := by decide +kernel
theorem d_M_terms_41 : decode prog_14_method_32_code 41 = .ok (.goto 6, 3) := by decide +kernel
theorem d_M_terms_44 : decode prog_14_method_32_code 44 = .ok (.sipush 151, 3) := by decide +kernel
theorem d_M_terms_47 : decode prog_14_method_32_code 47 = .ok (.istore_n 3, 1) := by decide +kernel
theorem d_M_terms_48 : decode prog_14_method_32_code 48 = .ok (.aload_n 0, 1) := by decide +kernel
theorem d_M_terms_49 : decode prog_14_method_32_code 49 = .ok (.getfield 24, 3) := by decide +kernel
theorem d_M_terms_52 : decode prog_14_method_32_code 52 = .ok (.iload_n 3, 1) := by decide +kernel
theorem d_M_terms_53 : decode prog_14_method_32_code 53 = .ok (.iaload, 1) := by decide +kernel
theorem d_M_terms_54 : decode prog_14_method_32_code 54 = .ok (.istore 4, 2) := by decide +kernel
theorem d_M_terms_56 : decode prog_14_method_32_code 56 = .ok (.aload_n 0, 1) := by decide +kernel
theorem d_M_terms_57 : decode prog_14_method_32_code 57 = .ok (.getfield 24, 3) := by decide +kernel
theorem d_M_terms_60 : decode prog_14_method_32_code 60 = .ok (.iload_n 3, 1) := by decide +kernel
theorem d_M_terms_61 : decode prog_14_method_32_code 61 = .ok (.iload_n 2, 1) := by decide +kernel
theorem d_M_terms_62 : decode prog_14_method_32_code 62 = .ok (.iastore, 1) := by decide +kernel
theorem d_M_terms_63 : decode prog_14_method_32_code 63 = .ok (.aload_n 0, 1) := by decide +kernel
theorem d_M_terms_64 : decode prog_14_method_32_code 64 = .ok (.iload 4, 2) := by decide +kernel
theorem d_M_terms_66 : decode prog_14_method_32_code 66 = .ok (.invokevirtual 130, 3) := by decide +kernel
theorem d_M_terms_69 : decode prog_14_method_32_code 69 = .ok (.ireturn, 1) := by decide +kernel
def w_M_terms {d : Nat} (hd : 2 ≤ d) := (show SS ("DebtDoorsModel", prog_14_method_32_code, 5) (some .int) d 0 0 0 0 _ from (sS (p1 := 35) (sIf (pn := 35) (tt := 29) (xC (rOr (mm := 9) (rNot (rNot (rJ1 (tgt := 29) k_eq (rS p_M_lies (Nat.le_trans (Nat.le_of_ble_eq_true rfl) hd) ls_M_123 (rAi (rAi (rAi rA0 (rIn 1 d_M_terms_0 rfl)) (rI d_M_terms_1 rfl)) (rI d_M_terms_2 rfl)) (by decide) d_M_terms_3) d_M_terms_6 (by decide)))) (rNot (rJ1 (tgt := 35) k_ne (rS p_M_lies (Nat.le_trans (Nat.le_of_ble_eq_true rfl) hd) ls_M_123 (rAi (rAi (rAi rA0 (rIn 2 d_M_terms_9 rfl)) (rI d_M_terms_10 rfl)) (rT2 (rNot (rJ1 (tgt := 21) k_ne (rIn 1 d_M_terms_11 rfl) d_M_terms_12 (by decide))) (rGoE (p2 := 23) (rSi d_M_terms_15 rfl) d_M_terms_18 (by decide)) (rB d_M_terms_21 rfl))) (by decide) d_M_terms_23) d_M_terms_26 (by decide))))) (sRi (xV lv_M_127 (xA (rAi (rAr rA0 (rAn 0 d_M_terms_29 rfl)) (rI d_M_terms_30 rfl))) (by decide) d_M_terms_31) d_M_terms_34 rfl)) (sS (p1 := 48) (sIn 3 (xE (rT2 (rNot (rJ1 (tgt := 44) k_ne (rIn 1 d_M_terms_35 rfl) d_M_terms_36 (by decide))) (rGoE (p2 := 47) (rB d_M_terms_39 rfl) d_M_terms_41 (by decide)) (rSi d_M_terms_44 rfl))) d_M_terms_47 rfl (by decide)) (sS (p1 := 56) (sI (xE (rIa (rFr fl_M_24 nk_12_2 (rAn 0 d_M_terms_48 rfl) d_M_terms_49) (rIn 3 d_M_terms_52 rfl) d_M_terms_53)) d_M_terms_54 (by decide)) (sS (p1 := 63) (sAs (rFr fl_M_24 nk_12_2 (rAn 0 d_M_terms_56 rfl) d_M_terms_57) (rIn 3 d_M_terms_60 rfl) (xE (rIn 2 d_M_terms_61 rfl)) d_M_terms_62) (sRi (xV lv_M_130 (xA (rAi (rAr rA0 (rAn 0 d_M_terms_63 rfl)) (rIl d_M_terms_64))) (by decide) d_M_terms_66) d_M_terms_69 rfl))))))
theorem q_M_goAll {d : Nat} (hd : 1 ≤ d) {μ : zMem} {a : Int} (ha : a = 153 ∨ a = 154) : zSp d 0 0 y_M_goAll zT0 [vr 355, vi a] μ zT0 (fun q μ' => q = some (vi (μ 357 a)) ∧ μ' = zm μ 357 a 0) := by
  refine zSp.ss [vr 355, vi a, vx 0] rfl (w_M_goAll hd) rfl rfl ?_
  (try simp only [zit_e, Bool.and_eq_true, Bool.or_eq_true, Bool.not_eq_true', Bool.and_eq_false_iff, Bool.or_eq_false_iff, Bool.not_eq_false', zbe, zdt, zdf, zb2_p, zbp_0, zbp_1, zbp_inj, zbp_01, Bool.true_eq_false, Bool.false_eq_true, true_and, and_true, Decidable.not_not, Classical.not_not, implies_true, List.nil_append, List.cons_append, List.append_assoc, Option.some.injEq, Sum.inl.injEq, zSw_c, zSw_n]); (try simp only [zit_e, Bool.and_eq_true, Bool.or_eq_true, Bool.not_eq_true', Bool.and_eq_false_iff, Bool.or_eq_false_iff, Bool.not_eq_false', zbe, zdt, zdf, zb2_p, zbp_0, zbp_1, zbp_inj, zbp_01, Bool.true_eq_false, Bool.false_eq_true, true_and, and_true, Decidable.not_not, Classical.not_not, implies_true, List.nil_append, List.cons_append, List.append_assoc, Option.some.injEq, Sum.inl.injEq, zSw_c, zSw_n, zc_355]); (try simp only [zi_cs, zi_c0, zii_cs, zii_c0, zl_cs, zl_c0, zll_cs, zll_c0, zr_cs, zr_c0, zrr_cs, zrr_c0, zxs_cs, zxs_c0, zxx_cs, zxx_c0, zfree_c0, zfree_c1, zfree_cs, zfree_cz, zlong_i, zlong_r, zlong_x, zset_0, zset_s, true_and, and_true, Option.some.injEq, Sum.inl.injEq, Sum.inr.injEq, zb2_p, zbp_0, zbp_1, zbp_inj, zbp_01, Nat.zero_add, Nat.reduceAdd, implies_true, List.nil_append, List.cons_append, List.append_assoc, Int.not_lt, Int.not_le, Decidable.not_not, Int.zero_add, Int.reduceLE, Int.reduceLT, Int.reduceEq, Int.reduceNe, Int.reduceAdd, Int.reduceSub, Int.reduceMul, Int.reduceNeg, Int.reduceToNat, Nat.reduceMul, Nat.reduceLT, Nat.reduceEqDiff, and_self, ite_true, ite_false, zx1, zx2, zRecv, List.length_cons, List.length_nil, ne_eq, not_true_eq_false, not_false_eq_true, true_or, or_true, or_false, false_or, and_false, false_and, zf01, zf10, reduceCtorEq, zSw_c, zSw_n, zm_r, zit_T, zit_F, false_implies, true_implies, zc_355])
  omega
theorem LC_cancel : LC y_D_cancel y_M_cancel [] := LC.mk (fun k μ h0 h1 hJ => by
  refine ⟨0, fun w μ1 => w = μ 1 8 ∧ μ1 = zm μ 1 8 0, fun μ1 w μ2 => w = μ1 357 153 ∧ μ2 = zm μ1 357 153 0, by decide, ?_, ?_, ?_⟩
  · refine zCw.use (zSp.ss [vr 0, vx 0] rfl (w_D_cancel (d := 100) (by decide)) rfl rfl ?_) (by decide) (fun q μ' e => e)
    (try simp only [zit_e, Bool.and_eq_true, Bool.or_eq_true, Bool.not_eq_true', Bool.and_eq_false_iff, Bool.or_eq_false_iff, Bool.not_eq_false', zbe, zdt, zdf, zb2_p, zbp_0, zbp_1, zbp_inj, zbp_01, Bool.true_eq_false, Bool.false_eq_true, true_and, and_true, Decidable.not_not, Classical.not_not, implies_true, List.nil_append, List.cons_append, List.append_assoc, Option.some.injEq, Sum.inl.injEq, zSw_c, zSw_n]); (try simp only [zit_e, Bool.and_eq_true, Bool.or_eq_true, Bool.not_eq_true', Bool.and_eq_false_iff, Bool.or_eq_false_iff, Bool.not_eq_false', zbe, zdt, zdf, zb2_p, zbp_0, zbp_1, zbp_inj, zbp_01, Bool.true_eq_false, Bool.false_eq_true, true_and, and_true, Decidable.not_not, Classical.not_not, implies_true, List.nil_append, List.cons_append, List.append_assoc, Option.some.injEq, Sum.inl.injEq, zSw_c, zSw_n, zc_0, zc_1]); (try simp only [zi_cs, zi_c0, zii_cs, zii_c0, zl_cs, zl_c0, zll_cs, zll_c0, zr_cs, zr_c0, zrr_cs, zrr_c0, zxs_cs, zxs_c0, zxx_cs, zxx_c0, zfree_c0, zfree_c1, zfree_cs, zfree_cz, zlong_i, zlong_r, zlong_x, zset_0, zset_s, true_and, and_true, Option.some.injEq, Sum.inl.injEq, Sum.inr.injEq, zb2_p, zbp_0, zbp_1, zbp_inj, zbp_01, Nat.zero_add, Nat.reduceAdd, implies_true, List.nil_append, List.cons_append, List.append_assoc, Int.not_lt, Int.not_le, Decidable.not_not, Int.zero_add, Int.reduceLE, Int.reduceLT, Int.reduceEq, Int.reduceNe, Int.reduceAdd, Int.reduceSub, Int.reduceMul, Int.reduceNeg, Int.reduceToNat, Nat.reduceMul, Nat.reduceLT, Nat.reduceEqDiff, and_self, ite_true, ite_false, zx1, zx2, zRecv, List.length_cons, List.length_nil, ne_eq, not_true_eq_false, not_false_eq_true, true_or, or_true, or_false, false_or, and_false, false_and, zf01, zf10, reduceCtorEq, zSw_c, zSw_n, zm_r, zit_T, zit_F, false_implies, true_implies, zc_0, zc_1])
    exact OD.yes (by decide) (by ((repeat refine HM.sm ?_ (by omega)); exact HM.rf)) ⟨rfl, rfl⟩
  · intro μ1 hm
    refine zCw.use (zSp.ss [vr 355] rfl (w_M_cancel (d := 100) (by decide)) rfl rfl ?_) (by decide) (fun q μ' e => e)
    (try simp only [zit_e, Bool.and_eq_true, Bool.or_eq_true, Bool.not_eq_true', Bool.and_eq_false_iff, Bool.or_eq_false_iff, Bool.not_eq_false', zbe, zdt, zdf, zb2_p, zbp_0, zbp_1, zbp_inj, zbp_01, Bool.true_eq_false, Bool.false_eq_true, true_and, and_true, Decidable.not_not, Classical.not_not, implies_true, List.nil_append, List.cons_append, List.append_assoc, Option.some.injEq, Sum.inl.injEq, zSw_c, zSw_n]); (try simp only [zit_e, Bool.and_eq_true, Bool.or_eq_true, Bool.not_eq_true', Bool.and_eq_false_iff, Bool.or_eq_false_iff, Bool.not_eq_false', zbe, zdt, zdf, zb2_p, zbp_0, zbp_1, zbp_inj, zbp_01, Bool.true_eq_false, Bool.false_eq_true, true_and, and_true, Decidable.not_not, Classical.not_not, implies_true, List.nil_append, List.cons_append, List.append_assoc, Option.some.injEq, Sum.inl.injEq, zSw_c, zSw_n, zc_355]); (try simp only [zi_cs, zi_c0, zii_cs, zii_c0, zl_cs, zl_c0, zll_cs, zll_c0, zr_cs, zr_c0, zrr_cs, zrr_c0, zxs_cs, zxs_c0, zxx_cs, zxx_c0, zfree_c0, zfree_c1, zfree_cs, zfree_cz, zlong_i, zlong_r, zlong_x, zset_0, zset_s, true_and, and_true, Option.some.injEq, Sum.inl.injEq, Sum.inr.injEq, zb2_p, zbp_0, zbp_1, zbp_inj, zbp_01, Nat.zero_add, Nat.reduceAdd, implies_true, List.nil_append, List.cons_append, List.append_assoc, Int.not_lt, Int.not_le, Decidable.not_not, Int.zero_add, Int.reduceLE, Int.reduceLT, Int.reduceEq, Int.reduceNe, Int.reduceAdd, Int.reduceSub, Int.reduceMul, Int.reduceNeg, Int.reduceToNat, Nat.reduceMul, Nat.reduceLT, Nat.reduceEqDiff, and_self, ite_true, ite_false, zx1, zx2, zRecv, List.length_cons, List.length_nil, ne_eq, not_true_eq_false, not_false_eq_true, true_or, or_true, or_false, false_or, and_false, false_and, zf01, zf10, reduceCtorEq, zSw_c, zSw_n, zm_r, zit_T, zit_F, false_implies, true_implies, zc_355])
    refine zCw.use (q_M_goAll (d := 1) (by decide) (Or.inl rfl)) (by decide) (fun q μ2 e => ?_)
    obtain ⟨rfl, rfl⟩ := e
    exact ⟨_, rfl, OM.yes (by decide) (by ((repeat refine HC.sm ?_ (by omega)); exact HC.rf)) ⟨rfl, rfl⟩⟩
  · rintro c w1 w2 μ1 μ2 hm ⟨rfl, rfl⟩ hc ⟨rfl, rfl⟩
    have hJ1 := hJ.m HC.rf hm
    clear hJ
    obtain ⟨a1, a2, a3, a4, a5, a6, a7, a8, a9, a10⟩ := hJ1.1
    refine ⟨a7.2.1.symm, JJ.up (JJ.tw hJ1 ?_ (by ((repeat refine KCt.sm ?_ (by unfold scC; omega)); exact KCt.rf)) (by ((repeat first | refine KMt.sm ?_ (by unfold scM; omega) | refine KMt.zf ?_ (by unfold kfM; omega)); exact KMt.rf))) (by omega)⟩
    refine ⟨?_, ?_, ?_, ?_, ?_, ?_, ?_, ?_, ?_, ?_⟩
    all_goals first
      | (first | (refine a1.c ?_ ?_ <;> ((repeat rw [zm_o (by omega)]); (try rfl); done)) | (refine a2.c (fun i x y => ?_) (fun i x y => ?_) <;> ((repeat rw [zm_o (by omega)]); (try rfl); done)) | (refine a3.c (fun i x y => ?_) (fun i x y => ?_) <;> (try apply And.intro) <;> ((repeat rw [zm_o (by omega)]); (try rfl); done)) | (refine a4.c ?_ (fun i x y => ?_) (fun i x y => ?_) <;> (try simp only [fD]) <;> ((repeat rw [zm_o (by omega)]); (try rfl); done)) | (refine a5.c ?_ ?_ <;> ((repeat rw [zm_o (by omega)]); (try rfl); done)) | (refine a6.c ?_ ?_ <;> ((repeat rw [zm_o (by omega)]); (try rfl); done)) | (refine a7.c ?_ (fun c p1 p2 i x y => ?_) ?_ (fun i x y => ?_) <;> ((repeat rw [zm_o (by omega)]); (try rfl); done)) | (refine a8.c ?_ (fun c p1 p2 i x y => ?_) ?_ (fun i x y => ?_) <;> ((repeat rw [zm_o (by omega)]); (try rfl); done)) | (refine a9.c ?_ (fun c p1 p2 i x y => ?_) (fun i x y => ?_) <;> ((repeat rw [zm_o (by omega)]); (try rfl); done)) | (refine a10.c ?_ ?_ ?_ <;> ((repeat rw [zm_o (by omega)]); (try rfl); done)))
      | skip
    refine ⟨by rw [zm_s]; decide, by rw [zm_s, zm_s], fun i x y => ?_⟩
    rw [zm_s] at y
    omega)
theorem LC_sweep : LC y_D_sweep y_M_sweep [] := LC.mk (fun k μ h0 h1 hJ => by
  refine ⟨0, fun w μ1 => w = μ 1 9 ∧ μ1 = zm μ 1 9 0, fun μ1 w μ2 => w = μ1 357 154 ∧ μ2 = zm μ1 357 154 0, by decide, ?_, ?_, ?_⟩
  · refine zCw.use (zSp.ss [vr 0, vx 0] rfl (w_D_sweep (d := 100) (by decide)) rfl rfl ?_) (by decide) (fun q μ' e => e)
    (try simp only [zit_e, Bool.and_eq_true, Bool.or_eq_true, Bool.not_eq_true', Bool.and_eq_false_iff, Bool.or_eq_false_iff, Bool.not_eq_false', zbe, zdt, zdf, zb2_p, zbp_0, zbp_1, zbp_inj, zbp_01, Bool.true_eq_false, Bool.false_eq_true, true_and, and_true, Decidable.not_not, Classical.not_not, implies_true, List.nil_append, List.cons_append, List.append_assoc, Option.some.injEq, Sum.inl.injEq, zSw_c, zSw_n]); (try simp only [zit_e, Bool.and_eq_true, Bool.or_eq_true, Bool.not_eq_true', Bool.and_eq_false_iff, Bool.or_eq_false_iff, Bool.not_eq_false', zbe, zdt, zdf, zb2_p, zbp_0, zbp_1, zbp_inj, zbp_01, Bool.true_eq_false, Bool.false_eq_true, true_and, and_true, Decidable.not_not, Classical.not_not, implies_true, List.nil_append, List.cons_append, List.append_assoc, Option.some.injEq, Sum.inl.injEq, zSw_c, zSw_n, zc_0, zc_1]); (try simp only [zi_cs, zi_c0, zii_cs, zii_c0, zl_cs, zl_c0, zll_cs, zll_c0, zr_cs, zr_c0, zrr_cs, zrr_c0, zxs_cs, zxs_c0, zxx_cs, zxx_c0, zfree_c0, zfree_c1, zfree_cs, zfree_cz, zlong_i, zlong_r, zlong_x, zset_0, zset_s, true_and, and_true, Option.some.injEq, Sum.inl.injEq, Sum.inr.injEq, zb2_p, zbp_0, zbp_1, zbp_inj, zbp_01, Nat.zero_add, Nat.reduceAdd, implies_true, List.nil_append, List.cons_append, List.append_assoc, Int.not_lt, Int.not_le, Decidable.not_not, Int.zero_add, Int.reduceLE, Int.reduceLT, Int.reduceEq, Int.reduceNe, Int.reduceAdd, Int.reduceSub, Int.reduceMul, Int.reduceNeg, Int.reduceToNat, Nat.reduceMul, Nat.reduceLT, Nat.reduceEqDiff, and_self, ite_true, ite_false, zx1, zx2, zRecv, List.length_cons, List.length_nil, ne_eq, not_true_eq_false, not_false_eq_true, true_or, or_true, or_false, false_or, and_false, false_and, zf01, zf10, reduceCtorEq, zSw_c, zSw_n, zm_r, zit_T, zit_F, false_implies, true_implies, zc_0, zc_1])
    exact OD.yes (by decide) (by ((repeat refine HM.sm ?_ (by omega)); exact HM.rf)) ⟨rfl, rfl⟩
  · intro μ1 hm
    refine zCw.use (zSp.ss [vr 355] rfl (w_M_sweep (d := 100) (by decide)) rfl rfl ?_) (by decide) (fun q μ' e => e)
    (try simp only [zit_e, Bool.and_eq_true, Bool.or_eq_true, Bool.not_eq_true', Bool.and_eq_false_iff, Bool.or_eq_false_iff, Bool.not_eq_false', zbe, zdt, zdf, zb2_p, zbp_0, zbp_1, zbp_inj, zbp_01, Bool.true_eq_false, Bool.false_eq_true, true_and, and_true, Decidable.not_not, Classical.not_not, implies_true, List.nil_append, List.cons_append, List.append_assoc, Option.some.injEq, Sum.inl.injEq, zSw_c, zSw_n]); (try simp only [zit_e, Bool.and_eq_true, Bool.or_eq_true, Bool.not_eq_true', Bool.and_eq_false_iff, Bool.or_eq_false_iff, Bool.not_eq_false', zbe, zdt, zdf, zb2_p, zbp_0, zbp_1, zbp_inj, zbp_01, Bool.true_eq_false, Bool.false_eq_true, true_and, and_true, Decidable.not_not, Classical.not_not, implies_true, List.nil_append, List.cons_append, List.append_assoc, Option.some.injEq, Sum.inl.injEq, zSw_c, zSw_n, zc_355]); (try simp only [zi_cs, zi_c0, zii_cs, zii_c0, zl_cs, zl_c0, zll_cs, zll_c0, zr_cs, zr_c0, zrr_cs, zrr_c0, zxs_cs, zxs_c0, zxx_cs, zxx_c0, zfree_c0, zfree_c1, zfree_cs, zfree_cz, zlong_i, zlong_r, zlong_x, zset_0, zset_s, true_and, and_true, Option.some.injEq, Sum.inl.injEq, Sum.inr.injEq, zb2_p, zbp_0, zbp_1, zbp_inj, zbp_01, Nat.zero_add, Nat.reduceAdd, implies_true, List.nil_append, List.cons_append, List.append_assoc, Int.not_lt, Int.not_le, Decidable.not_not, Int.zero_add, Int.reduceLE, Int.reduceLT, Int.reduceEq, Int.reduceNe, Int.reduceAdd, Int.reduceSub, Int.reduceMul, Int.reduceNeg, Int.reduceToNat, Nat.reduceMul, Nat.reduceLT, Nat.reduceEqDiff, and_self, ite_true, ite_false, zx1, zx2, zRecv, List.length_cons, List.length_nil, ne_eq, not_true_eq_false, not_false_eq_true, true_or, or_true, or_false, false_or, and_false, false_and, zf01, zf10, reduceCtorEq, zSw_c, zSw_n, zm_r, zit_T, zit_F, false_implies, true_implies, zc_355])
    refine zCw.use (q_M_goAll (d := 1) (by decide) (Or.inr rfl)) (by decide) (fun q μ2 e => ?_)
    obtain ⟨rfl, rfl⟩ := e
    exact ⟨_, rfl, OM.yes (by decide) (by ((repeat refine HC.sm ?_ (by omega)); exact HC.rf)) ⟨rfl, rfl⟩⟩
  · rintro c w1 w2 μ1 μ2 hm ⟨rfl, rfl⟩ hc ⟨rfl, rfl⟩
    have hJ1 := hJ.m HC.rf hm
    clear hJ
    obtain ⟨a1, a2, a3, a4, a5, a6, a7, a8, a9, a10⟩ := hJ1.1
    refine ⟨a8.2.1.symm, JJ.up (JJ.tw hJ1 ?_ (by ((repeat refine KCt.sm ?_ (by unfold scC; omega)); exact KCt.rf)) (by ((repeat first | refine KMt.sm ?_ (by unfold scM; omega) | refine KMt.zf ?_ (by unfold kfM; omega)); exact KMt.rf))) (by omega)⟩
    refine ⟨?_, ?_, ?_, ?_, ?_, ?_, ?_, ?_, ?_, ?_⟩
    all_goals first
      | (first | (refine a1.c ?_ ?_ <;> ((repeat rw [zm_o (by omega)]); (try rfl); done)) | (refine a2.c (fun i x y => ?_) (fun i x y => ?_) <;> ((repeat rw [zm_o (by omega)]); (try rfl); done)) | (refine a3.c (fun i x y => ?_) (fun i x y => ?_) <;> (try apply And.intro) <;> ((repeat rw [zm_o (by omega)]); (try rfl); done)) | (refine a4.c ?_ (fun i x y => ?_) (fun i x y => ?_) <;> (try simp only [fD]) <;> ((repeat rw [zm_o (by omega)]); (try rfl); done)) | (refine a5.c ?_ ?_ <;> ((repeat rw [zm_o (by omega)]); (try rfl); done)) | (refine a6.c ?_ ?_ <;> ((repeat rw [zm_o (by omega)]); (try rfl); done)) | (refine a7.c ?_ (fun c p1 p2 i x y => ?_) ?_ (fun i x y => ?_) <;> ((repeat rw [zm_o (by omega)]); (try rfl); done)) | (refine a8.c ?_ (fun c p1 p2 i x y => ?_) ?_ (fun i x y => ?_) <;> ((repeat rw [zm_o (by omega)]); (try rfl); done)) | (refine a9.c ?_ (fun c p1 p2 i x y => ?_) (fun i x y => ?_) <;> ((repeat rw [zm_o (by omega)]); (try rfl); done)) | (refine a10.c ?_ ?_ ?_ <;> ((repeat rw [zm_o (by omega)]); (try rfl); done)))
      | skip
    refine ⟨by rw [zm_s]; decide, by rw [zm_s, zm_s], fun i x y => ?_⟩
    rw [zm_s] at y
    omega)
noncomputable def termC (w x : Int) : Int := zit (w = 0 ∧ (0 ≤ x ∧ x ≤ 999) ∨ w = 1 ∧ (0 ≤ x ∧ x ≤ 9)) 0 (-1)
theorem LC_terms {w x : Int} : LC y_D_terms y_M_terms [vi w, vi x] := LC.mk (fun k μ h0 h1 hJ => by
  refine ⟨termC w x, fun v μ1 => (w = 0 → v = μ 2 6 ∧ μ1 = zm (zm (zm μ 2 6 x) 111 3 0) 0 15 0) ∧ (w ≠ 0 → v = μ 1 7 ∧ μ1 = zm (zm (zm μ 1 7 x) 111 3 0) 0 15 0), fun μ1 v μ2 => (w = 0 → v = μ1 357 72 ∧ μ2 = zm (zm (zm μ1 357 72 x) 355 28 0) 355 0 0) ∧ (w ≠ 0 → v = μ1 357 151 ∧ μ2 = zm (zm (zm μ1 357 151 x) 355 28 0) 355 0 0), ?_, ?_, ?_, ?_⟩
  · unfold termC zit
    split <;> omega
  · refine zCw.use (zSp.ss [vr 0, vi w, vi x, vx 0] rfl (w_D_terms (d := 100) (by decide)) rfl rfl ?_) (by decide) (fun q μ' e => e)
    (try simp only [zit_e, Bool.and_eq_true, Bool.or_eq_true, Bool.not_eq_true', Bool.and_eq_false_iff, Bool.or_eq_false_iff, Bool.not_eq_false', zbe, zdt, zdf, zb2_p, zbp_0, zbp_1, zbp_inj, zbp_01, Bool.true_eq_false, Bool.false_eq_true, true_and, and_true, Decidable.not_not, Classical.not_not, implies_true, List.nil_append, List.cons_append, List.append_assoc, Option.some.injEq, Sum.inl.injEq, zSw_c, zSw_n]); (try simp only [zit_e, Bool.and_eq_true, Bool.or_eq_true, Bool.not_eq_true', Bool.and_eq_false_iff, Bool.or_eq_false_iff, Bool.not_eq_false', zbe, zdt, zdf, zb2_p, zbp_0, zbp_1, zbp_inj, zbp_01, Bool.true_eq_false, Bool.false_eq_true, true_and, and_true, Decidable.not_not, Classical.not_not, implies_true, List.nil_append, List.cons_append, List.append_assoc, Option.some.injEq, Sum.inl.injEq, zSw_c, zSw_n, zc_0, zc_1, zc_2, zc_111, f_D_between, g_D_between]); (try simp only [zi_cs, zi_c0, zii_cs, zii_c0, zl_cs, zl_c0, zll_cs, zll_c0, zr_cs, zr_c0, zrr_cs, zrr_c0, zxs_cs, zxs_c0, zxx_cs, zxx_c0, zfree_c0, zfree_c1, zfree_cs, zfree_cz, zlong_i, zlong_r, zlong_x, zset_0, zset_s, true_and, and_true, Option.some.injEq, Sum.inl.injEq, Sum.inr.injEq, zb2_p, zbp_0, zbp_1, zbp_inj, zbp_01, Nat.zero_add, Nat.reduceAdd, implies_true, List.nil_append, List.cons_append, List.append_assoc, Int.not_lt, Int.not_le, Decidable.not_not, Int.zero_add, Int.reduceLE, Int.reduceLT, Int.reduceEq, Int.reduceNe, Int.reduceAdd, Int.reduceSub, Int.reduceMul, Int.reduceNeg, Int.reduceToNat, Nat.reduceMul, Nat.reduceLT, Nat.reduceEqDiff, and_self, ite_true, ite_false, zx1, zx2, zRecv, List.length_cons, List.length_nil, ne_eq, not_true_eq_false, not_false_eq_true, true_or, or_true, or_false, false_or, and_false, false_and, zf01, zf10, reduceCtorEq, zSw_c, zSw_n, zm_r, zit_T, zit_F, false_implies, true_implies, zc_0, zc_1, zc_2, zc_111, f_D_between, g_D_between])
    refine zif (fun c1 => ?_) (fun c1 => ?_)
    · have e : termC w x = 0 := zit_t (Or.inl ⟨c1.1, by omega⟩)
      exact fgD_w (by omega) ⟨rfl, acD_w (by omega) ⟨_, rfl, OD.yes (by omega) (by ((repeat refine HM.sm ?_ (by omega)); exact HM.rf)) ⟨fun _ => ⟨rfl, rfl⟩, fun q => absurd c1.1 q⟩⟩⟩
    · refine zif (fun c2 => ?_) (fun c2 => ?_)
      · have e : termC w x = 0 := zit_t (Or.inr ⟨c2.1, by omega⟩)
        exact fgD_w (by omega) ⟨rfl, acD_w (by omega) ⟨_, rfl, OD.yes (by omega) (by ((repeat refine HM.sm ?_ (by omega)); exact HM.rf)) ⟨fun q => by omega, fun _ => ⟨rfl, rfl⟩⟩⟩⟩
      · exact rfD_w (by omega) (by decide) (hJ.rD h0 h1) ⟨_, rfl, OD.no (zit_f (by omega)) (by decide) PJc.rf⟩
  · intro μ1 hm
    have hr := hJ.rM h0 h1 hm
    refine zCw.use (zSp.ss [vr 355, vi w, vi x, vx 0, vx 0] rfl (w_M_terms (d := 100) (by decide)) rfl rfl ?_) (by decide) (fun q μ' e => e)
    (try simp only [zit_e, Bool.and_eq_true, Bool.or_eq_true, Bool.not_eq_true', Bool.and_eq_false_iff, Bool.or_eq_false_iff, Bool.not_eq_false', zbe, zdt, zdf, zb2_p, zbp_0, zbp_1, zbp_inj, zbp_01, Bool.true_eq_false, Bool.false_eq_true, true_and, and_true, Decidable.not_not, Classical.not_not, implies_true, List.nil_append, List.cons_append, List.append_assoc, Option.some.injEq, Sum.inl.injEq, zSw_c, zSw_n]); (try simp only [zit_e, Bool.and_eq_true, Bool.or_eq_true, Bool.not_eq_true', Bool.and_eq_false_iff, Bool.or_eq_false_iff, Bool.not_eq_false', zbe, zdt, zdf, zb2_p, zbp_0, zbp_1, zbp_inj, zbp_01, Bool.true_eq_false, Bool.false_eq_true, true_and, and_true, Decidable.not_not, Classical.not_not, implies_true, List.nil_append, List.cons_append, List.append_assoc, Option.some.injEq, Sum.inl.injEq, zSw_c, zSw_n, zc_355, f_M_lies, g_M_lies]); (try simp only [zi_cs, zi_c0, zii_cs, zii_c0, zl_cs, zl_c0, zll_cs, zll_c0, zr_cs, zr_c0, zrr_cs, zrr_c0, zxs_cs, zxs_c0, zxx_cs, zxx_c0, zfree_c0, zfree_c1, zfree_cs, zfree_cz, zlong_i, zlong_r, zlong_x, zset_0, zset_s, true_and, and_true, Option.some.injEq, Sum.inl.injEq, Sum.inr.injEq, zb2_p, zbp_0, zbp_1, zbp_inj, zbp_01, Nat.zero_add, Nat.reduceAdd, implies_true, List.nil_append, List.cons_append, List.append_assoc, Int.not_lt, Int.not_le, Decidable.not_not, Int.zero_add, Int.reduceLE, Int.reduceLT, Int.reduceEq, Int.reduceNe, Int.reduceAdd, Int.reduceSub, Int.reduceMul, Int.reduceNeg, Int.reduceToNat, Nat.reduceMul, Nat.reduceLT, Nat.reduceEqDiff, and_self, ite_true, ite_false, zx1, zx2, zRecv, List.length_cons, List.length_nil, ne_eq, not_true_eq_false, not_false_eq_true, true_or, or_true, or_false, false_or, and_false, false_and, zf01, zf10, reduceCtorEq, zSw_c, zSw_n, zm_r, zit_T, zit_F, false_implies, true_implies, zc_355, f_M_lies, g_M_lies])
    by_cases c0 : w = 0
    · subst c0
      (try simp only [zit_e, Bool.and_eq_true, Bool.or_eq_true, Bool.not_eq_true', Bool.and_eq_false_iff, Bool.or_eq_false_iff, Bool.not_eq_false', zbe, zdt, zdf, zb2_p, zbp_0, zbp_1, zbp_inj, zbp_01, Bool.true_eq_false, Bool.false_eq_true, true_and, and_true, Decidable.not_not, Classical.not_not, implies_true, List.nil_append, List.cons_append, List.append_assoc, Option.some.injEq, Sum.inl.injEq, zSw_c, zSw_n]); (try simp only [zit_e, Bool.and_eq_true, Bool.or_eq_true, Bool.not_eq_true', Bool.and_eq_false_iff, Bool.or_eq_false_iff, Bool.not_eq_false', zbe, zdt, zdf, zb2_p, zbp_0, zbp_1, zbp_inj, zbp_01, Bool.true_eq_false, Bool.false_eq_true, true_and, and_true, Decidable.not_not, Classical.not_not, implies_true, List.nil_append, List.cons_append, List.append_assoc, Option.some.injEq, Sum.inl.injEq, zSw_c, zSw_n, zc_355, f_M_lies, g_M_lies]); (try simp only [zi_cs, zi_c0, zii_cs, zii_c0, zl_cs, zl_c0, zll_cs, zll_c0, zr_cs, zr_c0, zrr_cs, zrr_c0, zxs_cs, zxs_c0, zxx_cs, zxx_c0, zfree_c0, zfree_c1, zfree_cs, zfree_cz, zlong_i, zlong_r, zlong_x, zset_0, zset_s, true_and, and_true, Option.some.injEq, Sum.inl.injEq, Sum.inr.injEq, zb2_p, zbp_0, zbp_1, zbp_inj, zbp_01, Nat.zero_add, Nat.reduceAdd, implies_true, List.nil_append, List.cons_append, List.append_assoc, Int.not_lt, Int.not_le, Decidable.not_not, Int.zero_add, Int.reduceLE, Int.reduceLT, Int.reduceEq, Int.reduceNe, Int.reduceAdd, Int.reduceSub, Int.reduceMul, Int.reduceNeg, Int.reduceToNat, Nat.reduceMul, Nat.reduceLT, Nat.reduceEqDiff, and_self, ite_true, ite_false, zx1, zx2, zRecv, List.length_cons, List.length_nil, ne_eq, not_true_eq_false, not_false_eq_true, true_or, or_true, or_false, false_or, and_false, false_and, zf01, zf10, reduceCtorEq, zSw_c, zSw_n, zm_r, zit_T, zit_F, false_implies, true_implies, zc_355, f_M_lies, g_M_lies])
      refine zif (fun c1 => ?_) (fun c1 => ?_)
      · exact rfM_w (by omega) (by decide) hr ⟨_, rfl, OM.no (zit_f (by omega)) (by decide) PJm.rf⟩
      · have e : termC 0 x = 0 := zit_t (Or.inl ⟨rfl, by omega⟩)
        exact seM_w (by omega) ⟨_, rfl, OM.yes (by omega) (by ((repeat refine HC.sm ?_ (by omega)); exact HC.rf)) ⟨rfl, rfl⟩⟩
    · rw [zit_f c0, zit_f c0]
      refine zif (fun c1 => ?_) (fun c1 => ?_)
      · exact rfM_w (by omega) (by decide) hr ⟨_, rfl, OM.no (zit_f (by omega)) (by decide) PJm.rf⟩
      · have e : termC w x = 0 := zit_t (Or.inr ⟨by omega, by omega⟩)
        refine ⟨by decide, by decide, by decide, ?_⟩
        exact seM_w (by omega) ⟨_, rfl, OM.yes (by omega) (by ((repeat refine HC.sm ?_ (by omega)); exact HC.rf)) ⟨fun q => absurd q c0, fun _ => ⟨rfl, rfl⟩⟩⟩
  · rintro c w1 w2 μ1 μ2 hm ⟨p1, p2⟩ hc ⟨q1, q2⟩
    have hJ1 := hJ.m HC.rf hm
    clear hJ
    obtain ⟨a1, a2, a3, a4, a5, a6, a7, a8, a9, a10⟩ := hJ1.1
    have cc : w = 0 ∧ (0 ≤ x ∧ x ≤ 999) ∨ w = 1 ∧ (0 ≤ x ∧ x ≤ 9) := Classical.byContradiction (fun q => by unfold termC at c; rw [zit_f q] at c; omega)
    by_cases c0 : w = 0
    · obtain ⟨rfl, rfl⟩ := p1 c0
      obtain ⟨rfl, rfl⟩ := q1 c0
      refine ⟨a5.2.symm, JJ.ok (JJ.fo (JJ.tw hJ1 ?_ (by ((repeat refine KCt.sm ?_ (by unfold scC; omega)); exact KCt.rf)) (by ((repeat first | refine KMt.sm ?_ (by unfold scM; omega) | refine KMt.zf ?_ (by unfold kfM; omega)); exact KMt.rf)))) (by omega) rfl⟩
      refine ⟨?_, ?_, ?_, ?_, ?_, ?_, ?_, ?_, ?_, ?_⟩
      all_goals first
        | (first | (refine a1.c ?_ ?_ <;> ((repeat rw [zm_o (by omega)]); (try rfl); done)) | (refine a2.c (fun i x y => ?_) (fun i x y => ?_) <;> ((repeat rw [zm_o (by omega)]); (try rfl); done)) | (refine a3.c (fun i x y => ?_) (fun i x y => ?_) <;> (try apply And.intro) <;> ((repeat rw [zm_o (by omega)]); (try rfl); done)) | (refine a4.c ?_ (fun i x y => ?_) (fun i x y => ?_) <;> (try simp only [fD]) <;> ((repeat rw [zm_o (by omega)]); (try rfl); done)) | (refine a5.c ?_ ?_ <;> ((repeat rw [zm_o (by omega)]); (try rfl); done)) | (refine a6.c ?_ ?_ <;> ((repeat rw [zm_o (by omega)]); (try rfl); done)) | (refine a7.c ?_ (fun c p1 p2 i x y => ?_) ?_ (fun i x y => ?_) <;> ((repeat rw [zm_o (by omega)]); (try rfl); done)) | (refine a8.c ?_ (fun c p1 p2 i x y => ?_) ?_ (fun i x y => ?_) <;> ((repeat rw [zm_o (by omega)]); (try rfl); done)) | (refine a9.c ?_ (fun c p1 p2 i x y => ?_) (fun i x y => ?_) <;> ((repeat rw [zm_o (by omega)]); (try rfl); done)) | (refine a10.c ?_ ?_ ?_ <;> ((repeat rw [zm_o (by omega)]); (try rfl); done)))
        | skip
      exact ⟨by rw [zm_s]; omega, by rw [zm_s, zm_s]⟩
    · obtain ⟨rfl, rfl⟩ := p2 c0
      obtain ⟨rfl, rfl⟩ := q2 c0
      refine ⟨a6.2.symm, JJ.ok (JJ.fo (JJ.tw hJ1 ?_ (by ((repeat refine KCt.sm ?_ (by unfold scC; omega)); exact KCt.rf)) (by ((repeat first | refine KMt.sm ?_ (by unfold scM; omega) | refine KMt.zf ?_ (by unfold kfM; omega)); exact KMt.rf)))) (by omega) rfl⟩
      refine ⟨?_, ?_, ?_, ?_, ?_, ?_, ?_, ?_, ?_, ?_⟩
      all_goals first
        | (first | (refine a1.c ?_ ?_ <;> ((repeat rw [zm_o (by omega)]); (try rfl); done)) | (refine a2.c (fun i x y => ?_) (fun i x y => ?_) <;> ((repeat rw [zm_o (by omega)]); (try rfl); done)) | (refine a3.c (fun i x y => ?_) (fun i x y => ?_) <;> (try apply And.intro) <;> ((repeat rw [zm_o (by omega)]); (try rfl); done)) | (refine a4.c ?_ (fun i x y => ?_) (fun i x y => ?_) <;> (try simp only [fD]) <;> ((repeat rw [zm_o (by omega)]); (try rfl); done)) | (refine a5.c ?_ ?_ <;> ((repeat rw [zm_o (by omega)]); (try rfl); done)) | (refine a6.c ?_ ?_ <;> ((repeat rw [zm_o (by omega)]); (try rfl); done)) | (refine a7.c ?_ (fun c p1 p2 i x y => ?_) ?_ (fun i x y => ?_) <;> ((repeat rw [zm_o (by omega)]); (try rfl); done)) | (refine a8.c ?_ (fun c p1 p2 i x y => ?_) ?_ (fun i x y => ?_) <;> ((repeat rw [zm_o (by omega)]); (try rfl); done)) | (refine a9.c ?_ (fun c p1 p2 i x y => ?_) (fun i x y => ?_) <;> ((repeat rw [zm_o (by omega)]); (try rfl); done)) | (refine a10.c ?_ ?_ ?_ <;> ((repeat rw [zm_o (by omega)]); (try rfl); done)))
        | skip
      exact ⟨by rw [zm_s]; omega, by rw [zm_s, zm_s]⟩)

