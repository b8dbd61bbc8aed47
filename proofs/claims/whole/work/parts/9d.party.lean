/-! need, shut, ban, party -/
theorem m_Ru_needOf : Cond.instanceMethod y_Ru_needOf.1 ∈ zTb ∧ Cond.selects y_Ru_needOf.1.cls y_Ru_needOf.1 y_Ru_needOf.1 ∈ zTb ∧ Cond.initialized y_Ru_needOf.1.cls ∈ zTb ∧ Cond.code y_Ru_needOf.1 y_Ru_needOf.2.1 y_Ru_needOf.2.2.1 y_Ru_needOf.2.2.2 ∈ zTb ∧ (y_Ru_needOf.1.cls ≠ "java/lang/invoke/MethodHandle" ∧ y_Ru_needOf.1.cls ≠ "java/lang/invoke/VarHandle" ∧ (parseMethodDescriptor y_Ru_needOf.1.desc).map (fun d => d.parameters.length) = some 4) ∧ y_Ru_needOf.2.2.1 ≤ 20 :=
  ⟨(zTb_in 1083 (by decide +kernel) (by decide +kernel)), (zTb_in 1084 (by decide +kernel) (by decide +kernel)), (zTb_in 144 (by decide +kernel) (by decide +kernel)), (zTb_in 1085 (by decide +kernel) (by decide +kernel)), by decide +kernel, by decide +kernel⟩
theorem lv_D_334 : zLv "DebtDoors" 334 y_Ru_needOf 4 7 := ⟨⟨(zTb_in 1082 (by decide +kernel) (by decide +kernel)), m_Ru_needOf.1, m_Ru_needOf.2.1, m_Ru_needOf.2.2⟩, _, rfl, rfl⟩
def y_D_need : zMt := (⟨"DebtDoors", "need", "(III)I"⟩, prog_1_method_39_code, 4, some .int)
theorem d_D_need_0 : decode prog_1_method_39_code 0 = .ok (.aload_n 0, 1) := by decide +kernel
theorem d_D_need_1 : decode prog_1_method_39_code 1 = .ok (.getfield 12, 3) := by decide +kernel
theorem d_D_need_4 : decode prog_1_method_39_code 4 = .ok (.iload_n 2, 1) := by decide +kernel
theorem d_D_need_5 : decode prog_1_method_39_code 5 = .ok (.iload_n 1, 1) := by decide +kernel
theorem d_D_need_6 : decode prog_1_method_39_code 6 = .ok (.invokevirtual 173, 3) := by decide +kernel
theorem d_D_need_9 : decode prog_1_method_39_code 9 = .ok (.ifCond .eq 12, 3) := by decide +kernel
theorem d_D_need_12 : decode prog_1_method_39_code 12 = .ok (.iload_n 3, 1) := by decide +kernel
theorem d_D_need_13 : decode prog_1_method_39_code 13 = .ok (.iconst 1, 1) := by decide +kernel
theorem d_D_need_14 : decode prog_1_method_39_code 14 = .ok (.iconst 3, 1) := by decide +kernel
theorem d_D_need_15 : decode prog_1_method_39_code 15 = .ok (.invokestatic 104, 3) := by decide +kernel
theorem d_D_need_18 : decode prog_1_method_39_code 18 = .ok (.ifCond .ne 5, 3) := by decide +kernel
theorem d_D_need_21 : decode prog_1_method_39_code 21 = .ok (.iconst (-1), 1) := by decide +kernel
theorem d_D_need_22 : decode prog_1_method_39_code 22 = .ok (.ireturn, 1) := by decide +kernel
theorem d_D_need_23 : decode prog_1_method_39_code 23 = .ok (.aload_n 0, 1) := by decide +kernel
theorem d_D_need_24 : decode prog_1_method_39_code 24 = .ok (.getfield 51, 3) := by decide +kernel
theorem d_D_need_27 : decode prog_1_method_39_code 27 = .ok (.aload_n 0, 1) := by decide +kernel
theorem d_D_need_28 : decode prog_1_method_39_code 28 = .ok (.getfield 12, 3) := by decide +kernel
theorem d_D_need_31 : decode prog_1_method_39_code 31 = .ok (.iload_n 1, 1) := by decide +kernel
theorem d_D_need_32 : decode prog_1_method_39_code 32 = .ok (.iload_n 2, 1) := by decide +kernel
theorem d_D_need_33 : decode prog_1_method_39_code 33 = .ok (.iload_n 3, 1) := by decide +kernel
theorem d_D_need_34 : decode prog_1_method_39_code 34 = .ok (.invokevirtual 334, 3) := by decide +kernel
theorem d_D_need_37 : decode prog_1_method_39_code 37 = .ok (.ireturn, 1) := by decide +kernel
def w_D_need {d : Nat} (hd : 3 ≤ d) := (show SS ("DebtDoors", prog_1_method_39_code, 4) (some .int) d 0 0 0 0 _ from (sS (p1 := 23) (sIf (pn := 23) (tt := 21) (xC (rOr (mm := 12) (rNot (rNot (rJ1 (tgt := 21) k_eq (rV p_To_hasPair (Nat.le_trans (Nat.le_of_ble_eq_true rfl) hd) lv_D_173 (rAi (rAi (rAr rA0 (rFr fl_D_12 nk_11_0 (rAn 0 d_D_need_0 rfl) d_D_need_1)) (rIn 2 d_D_need_4 rfl)) (rIn 1 d_D_need_5 rfl)) (by decide) d_D_need_6) d_D_need_9 (by decide)))) (rNot (rJ1 (tgt := 23) k_ne (rS p_D_between (Nat.le_trans (Nat.le_of_ble_eq_true rfl) hd) ls_D_104 (rAi (rAi (rAi rA0 (rIn 3 d_D_need_12 rfl)) (rI d_D_need_13 rfl)) (rI d_D_need_14 rfl)) (by decide) d_D_need_15) d_D_need_18 (by decide))))) (sRi (xE (rI d_D_need_21 rfl)) d_D_need_22 rfl)) (sRi (xV lv_D_334 (xA (rAi (rAi (rAi (rAr (rAr rA0 (rFr fl_D_51 nk_11_7 (rAn 0 d_D_need_23 rfl) d_D_need_24)) (rFr fl_D_12 nk_11_0 (rAn 0 d_D_need_27 rfl) d_D_need_28)) (rIn 1 d_D_need_31 rfl)) (rIn 2 d_D_need_32 rfl)) (rIn 3 d_D_need_33 rfl))) (by decide) d_D_need_34) d_D_need_37 rfl)))
theorem m_M_needOf : Cond.instanceMethod y_M_needOf.1 ∈ zTb ∧ Cond.selects y_M_needOf.1.cls y_M_needOf.1 y_M_needOf.1 ∈ zTb ∧ Cond.initialized y_M_needOf.1.cls ∈ zTb ∧ Cond.code y_M_needOf.1 y_M_needOf.2.1 y_M_needOf.2.2.1 y_M_needOf.2.2.2 ∈ zTb ∧ (y_M_needOf.1.cls ≠ "java/lang/invoke/MethodHandle" ∧ y_M_needOf.1.cls ≠ "java/lang/invoke/VarHandle" ∧ (parseMethodDescriptor y_M_needOf.1.desc).map (fun d => d.parameters.length) = some 3) ∧ y_M_needOf.2.2.1 ≤ 20 :=
  ⟨(zTb_in 1892 (by decide +kernel) (by decide +kernel)), (List.mem_filter.mpr ⟨List.mem_append_left _ (by decide +kernel), by decide +kernel⟩), (zTb_in 151 (by decide +kernel) (by decide +kernel)), (zTb_in 1893 (by decide +kernel) (by decide +kernel)), by decide +kernel, by decide +kernel⟩
theorem lv_M_390 : zLv "DebtDoorsModel" 390 y_M_needOf 3 12 := ⟨⟨(zTb_in 1890 (by decide +kernel) (by decide +kernel)), m_M_needOf.1, m_M_needOf.2.1, m_M_needOf.2.2⟩, _, rfl, rfl⟩
def y_M_need : zMt := (⟨"DebtDoorsModel", "need", "(III)I"⟩, prog_14_method_102_code, 4, some .int)
theorem d_M_need_0 : decode prog_14_method_102_code 0 = .ok (.aload_n 0, 1) := by decide +kernel
theorem d_M_need_1 : decode prog_14_method_102_code 1 = .ok (.iload_n 1, 1) := by decide +kernel
theorem d_M_need_2 : decode prog_14_method_102_code 2 = .ok (.iload_n 2, 1) := by decide +kernel
theorem d_M_need_3 : decode prog_14_method_102_code 3 = .ok (.invokevirtual 345, 3) := by decide +kernel
theorem d_M_need_6 : decode prog_14_method_102_code 6 = .ok (.ifCond .eq 20, 3) := by decide +kernel
theorem d_M_need_9 : decode prog_14_method_102_code 9 = .ok (.iload_n 3, 1) := by decide +kernel
theorem d_M_need_10 : decode prog_14_method_102_code 10 = .ok (.invokestatic 140, 3) := by decide +kernel
theorem d_M_need_13 : decode prog_14_method_102_code 13 = .ok (.ifCond .eq 13, 3) := by decide +kernel
theorem d_M_need_16 : decode prog_14_method_102_code 16 = .ok (.aload_n 0, 1) := by decide +kernel
theorem d_M_need_17 : decode prog_14_method_102_code 17 = .ok (.iload_n 1, 1) := by decide +kernel
theorem d_M_need_18 : decode prog_14_method_102_code 18 = .ok (.iload_n 2, 1) := by decide +kernel
theorem d_M_need_19 : decode prog_14_method_102_code 19 = .ok (.iload_n 3, 1) := by decide +kernel
theorem d_M_need_20 : decode prog_14_method_102_code 20 = .ok (.invokevirtual 390, 3) := by decide +kernel
theorem d_M_need_23 : decode prog_14_method_102_code 23 = .ok (.goto 4, 3) := by decide +kernel
theorem d_M_need_26 : decode prog_14_method_102_code 26 = .ok (.iconst (-1), 1) := by decide +kernel
theorem d_M_need_27 : decode prog_14_method_102_code 27 = .ok (.ireturn, 1) := by decide +kernel
def w_M_need {d : Nat} (hd : 4 ≤ d) := (show SS ("DebtDoorsModel", prog_14_method_102_code, 4) (some .int) d 0 0 0 0 _ from (sRi (xT2 (xC (rAnd (mm := 9) (rNot (rJ1 (tgt := 26) k_eq (rV p_M_areTwo (Nat.le_trans (Nat.le_of_ble_eq_true rfl) hd) lv_M_345 (rAi (rAi (rAr rA0 (rAn 0 d_M_need_0 rfl)) (rIn 1 d_M_need_1 rfl)) (rIn 2 d_M_need_2 rfl)) (by decide) d_M_need_3) d_M_need_6 (by decide))) (rNot (rJ1 (tgt := 26) k_eq (rS p_M_isRoom (Nat.le_trans (Nat.le_of_ble_eq_true rfl) hd) ls_M_140 (rAi rA0 (rIn 3 d_M_need_9 rfl)) (by decide) d_M_need_10) d_M_need_13 (by decide))))) (xGoE (p2 := 27) (xV lv_M_390 (xA (rAi (rAi (rAi (rAr rA0 (rAn 0 d_M_need_16 rfl)) (rIn 1 d_M_need_17 rfl)) (rIn 2 d_M_need_18 rfl)) (rIn 3 d_M_need_19 rfl))) (by decide) d_M_need_20) d_M_need_23 (by decide)) (xE (rI d_M_need_26 rfl))) d_M_need_27 rfl))
theorem m_Ru_shutBy : Cond.instanceMethod y_Ru_shutBy.1 ∈ zTb ∧ Cond.selects y_Ru_shutBy.1.cls y_Ru_shutBy.1 y_Ru_shutBy.1 ∈ zTb ∧ Cond.initialized y_Ru_shutBy.1.cls ∈ zTb ∧ Cond.code y_Ru_shutBy.1 y_Ru_shutBy.2.1 y_Ru_shutBy.2.2.1 y_Ru_shutBy.2.2.2 ∈ zTb ∧ (y_Ru_shutBy.1.cls ≠ "java/lang/invoke/MethodHandle" ∧ y_Ru_shutBy.1.cls ≠ "java/lang/invoke/VarHandle" ∧ (parseMethodDescriptor y_Ru_shutBy.1.desc).map (fun d => d.parameters.length) = some 4) ∧ y_Ru_shutBy.2.2.1 ≤ 20 :=
  ⟨(zTb_in 1194 (by decide +kernel) (by decide +kernel)), (zTb_in 1195 (by decide +kernel) (by decide +kernel)), (zTb_in 144 (by decide +kernel) (by decide +kernel)), (zTb_in 1196 (by decide +kernel) (by decide +kernel)), by decide +kernel, by decide +kernel⟩
theorem lv_D_376 : zLv "DebtDoors" 376 y_Ru_shutBy 4 7 := ⟨⟨(zTb_in 1193 (by decide +kernel) (by decide +kernel)), m_Ru_shutBy.1, m_Ru_shutBy.2.1, m_Ru_shutBy.2.2⟩, _, rfl, rfl⟩
def y_D_shut : zMt := (⟨"DebtDoors", "shut", "(III)I"⟩, prog_1_method_46_code, 4, some .int)
theorem d_D_shut_0 : decode prog_1_method_46_code 0 = .ok (.aload_n 0, 1) := by decide +kernel
theorem d_D_shut_1 : decode prog_1_method_46_code 1 = .ok (.getfield 12, 3) := by decide +kernel
theorem d_D_shut_4 : decode prog_1_method_46_code 4 = .ok (.iload_n 1, 1) := by decide +kernel
theorem d_D_shut_5 : decode prog_1_method_46_code 5 = .ok (.iload_n 2, 1) := by decide +kernel
theorem d_D_shut_6 : decode prog_1_method_46_code 6 = .ok (.invokevirtual 173, 3) := by decide +kernel
theorem d_D_shut_9 : decode prog_1_method_46_code 9 = .ok (.ifCond .eq 12, 3) := by decide +kernel
theorem d_D_shut_12 : decode prog_1_method_46_code 12 = .ok (.iload_n 3, 1) := by decide +kernel
theorem d_D_shut_13 : decode prog_1_method_46_code 13 = .ok (.iconst 1, 1) := by decide +kernel
theorem d_D_shut_14 : decode prog_1_method_46_code 14 = .ok (.iconst 3, 1) := by decide +kernel
theorem d_D_shut_15 : decode prog_1_method_46_code 15 = .ok (.invokestatic 104, 3) := by decide +kernel
theorem d_D_shut_18 : decode prog_1_method_46_code 18 = .ok (.ifCond .ne 5, 3) := by decide +kernel
theorem d_D_shut_21 : decode prog_1_method_46_code 21 = .ok (.iconst (-1), 1) := by decide +kernel
theorem d_D_shut_22 : decode prog_1_method_46_code 22 = .ok (.ireturn, 1) := by decide +kernel
theorem d_D_shut_23 : decode prog_1_method_46_code 23 = .ok (.aload_n 0, 1) := by decide +kernel
theorem d_D_shut_24 : decode prog_1_method_46_code 24 = .ok (.getfield 51, 3) := by decide +kernel
theorem d_D_shut_27 : decode prog_1_method_46_code 27 = .ok (.aload_n 0, 1) := by decide +kernel
theorem d_D_shut_28 : decode prog_1_method_46_code 28 = .ok (.getfield 12, 3) := by decide +kernel
theorem d_D_shut_31 : decode prog_1_method_46_code 31 = .ok (.iload_n 1, 1) := by decide +kernel
theorem d_D_shut_32 : decode prog_1_method_46_code 32 = .ok (.iload_n 2, 1) := by decide +kernel
theorem d_D_shut_33 : decode prog_1_method_46_code 33 = .ok (.iload_n 3, 1) := by decide +kernel
theorem d_D_shut_34 : decode prog_1_method_46_code 34 = .ok (.invokevirtual 376, 3) := by decide +kernel
theorem d_D_shut_37 : decode prog_1_method_46_code 37 = .ok (.ireturn, 1) := by decide +kernel
def w_D_shut {d : Nat} (hd : 3 ≤ d) := (show SS ("DebtDoors", prog_1_method_46_code, 4) (some .int) d 0 0 0 0 _ from (sS (p1 := 23) (sIf (pn := 23) (tt := 21) (xC (rOr (mm := 12) (rNot (rNot (rJ1 (tgt := 21) k_eq (rV p_To_hasPair (Nat.le_trans (Nat.le_of_ble_eq_true rfl) hd) lv_D_173 (rAi (rAi (rAr rA0 (rFr fl_D_12 nk_11_0 (rAn 0 d_D_shut_0 rfl) d_D_shut_1)) (rIn 1 d_D_shut_4 rfl)) (rIn 2 d_D_shut_5 rfl)) (by decide) d_D_shut_6) d_D_shut_9 (by decide)))) (rNot (rJ1 (tgt := 23) k_ne (rS p_D_between (Nat.le_trans (Nat.le_of_ble_eq_true rfl) hd) ls_D_104 (rAi (rAi (rAi rA0 (rIn 3 d_D_shut_12 rfl)) (rI d_D_shut_13 rfl)) (rI d_D_shut_14 rfl)) (by decide) d_D_shut_15) d_D_shut_18 (by decide))))) (sRi (xE (rI d_D_shut_21 rfl)) d_D_shut_22 rfl)) (sRi (xV lv_D_376 (xA (rAi (rAi (rAi (rAr (rAr rA0 (rFr fl_D_51 nk_11_7 (rAn 0 d_D_shut_23 rfl) d_D_shut_24)) (rFr fl_D_12 nk_11_0 (rAn 0 d_D_shut_27 rfl) d_D_shut_28)) (rIn 1 d_D_shut_31 rfl)) (rIn 2 d_D_shut_32 rfl)) (rIn 3 d_D_shut_33 rfl))) (by decide) d_D_shut_34) d_D_shut_37 rfl)))
theorem m_M_shutBy : Cond.instanceMethod y_M_shutBy.1 ∈ zTb ∧ Cond.selects y_M_shutBy.1.cls y_M_shutBy.1 y_M_shutBy.1 ∈ zTb ∧ Cond.initialized y_M_shutBy.1.cls ∈ zTb ∧ Cond.code y_M_shutBy.1 y_M_shutBy.2.1 y_M_shutBy.2.2.1 y_M_shutBy.2.2.2 ∈ zTb ∧ (y_M_shutBy.1.cls ≠ "java/lang/invoke/MethodHandle" ∧ y_M_shutBy.1.cls ≠ "java/lang/invoke/VarHandle" ∧ (parseMethodDescriptor y_M_shutBy.1.desc).map (fun d => d.parameters.length) = some 3) ∧ y_M_shutBy.2.2.1 ≤ 20 :=
  ⟨(zTb_in 1966 (by decide +kernel) (by decide +kernel)), (List.mem_filter.mpr ⟨List.mem_append_left _ (by decide +kernel), by decide +kernel⟩), (zTb_in 151 (by decide +kernel) (by decide +kernel)), (zTb_in 1967 (by decide +kernel) (by decide +kernel)), by decide +kernel, by decide +kernel⟩
theorem lv_M_442 : zLv "DebtDoorsModel" 442 y_M_shutBy 3 12 := ⟨⟨(zTb_in 1964 (by decide +kernel) (by decide +kernel)), m_M_shutBy.1, m_M_shutBy.2.1, m_M_shutBy.2.2⟩, _, rfl, rfl⟩
def y_M_shut : zMt := (⟨"DebtDoorsModel", "shut", "(III)I"⟩, prog_14_method_117_code, 4, some .int)
theorem d_M_shut_0 : decode prog_14_method_117_code 0 = .ok (.aload_n 0, 1) := by decide +kernel
theorem d_M_shut_1 : decode prog_14_method_117_code 1 = .ok (.iload_n 1, 1) := by decide +kernel
theorem d_M_shut_2 : decode prog_14_method_117_code 2 = .ok (.iload_n 2, 1) := by decide +kernel
theorem d_M_shut_3 : decode prog_14_method_117_code 3 = .ok (.invokevirtual 345, 3) := by decide +kernel
theorem d_M_shut_6 : decode prog_14_method_117_code 6 = .ok (.ifCond .eq 20, 3) := by decide +kernel
theorem d_M_shut_9 : decode prog_14_method_117_code 9 = .ok (.iload_n 3, 1) := by decide +kernel
theorem d_M_shut_10 : decode prog_14_method_117_code 10 = .ok (.invokestatic 140, 3) := by decide +kernel
theorem d_M_shut_13 : decode prog_14_method_117_code 13 = .ok (.ifCond .eq 13, 3) := by decide +kernel
theorem d_M_shut_16 : decode prog_14_method_117_code 16 = .ok (.aload_n 0, 1) := by decide +kernel
theorem d_M_shut_17 : decode prog_14_method_117_code 17 = .ok (.iload_n 1, 1) := by decide +kernel
theorem d_M_shut_18 : decode prog_14_method_117_code 18 = .ok (.iload_n 2, 1) := by decide +kernel
theorem d_M_shut_19 : decode prog_14_method_117_code 19 = .ok (.iload_n 3, 1) := by decide +kernel
theorem d_M_shut_20 : decode prog_14_method_117_code 20 = .ok (.invokevirtual 442, 3) := by decide +kernel
theorem d_M_shut_23 : decode prog_14_method_117_code 23 = .ok (.goto 4, 3) := by decide +kernel
theorem d_M_shut_26 : decode prog_14_method_117_code 26 = .ok (.iconst (-1), 1) := by decide +kernel
theorem d_M_shut_27 : decode prog_14_method_117_code 27 = .ok (.ireturn, 1) := by decide +kernel
def w_M_shut {d : Nat} (hd : 4 ≤ d) := (show SS ("DebtDoorsModel", prog_14_method_117_code, 4) (some .int) d 0 0 0 0 _ from (sRi (xT2 (xC (rAnd (mm := 9) (rNot (rJ1 (tgt := 26) k_eq (rV p_M_areTwo (Nat.le_trans (Nat.le_of_ble_eq_true rfl) hd) lv_M_345 (rAi (rAi (rAr rA0 (rAn 0 d_M_shut_0 rfl)) (rIn 1 d_M_shut_1 rfl)) (rIn 2 d_M_shut_2 rfl)) (by decide) d_M_shut_3) d_M_shut_6 (by decide))) (rNot (rJ1 (tgt := 26) k_eq (rS p_M_isRoom (Nat.le_trans (Nat.le_of_ble_eq_true rfl) hd) ls_M_140 (rAi rA0 (rIn 3 d_M_shut_9 rfl)) (by decide) d_M_shut_10) d_M_shut_13 (by decide))))) (xGoE (p2 := 27) (xV lv_M_442 (xA (rAi (rAi (rAi (rAr rA0 (rAn 0 d_M_shut_16 rfl)) (rIn 1 d_M_shut_17 rfl)) (rIn 2 d_M_shut_18 rfl)) (rIn 3 d_M_shut_19 rfl))) (by decide) d_M_shut_20) d_M_shut_23 (by decide)) (xE (rI d_M_shut_26 rfl))) d_M_shut_27 rfl))
theorem LC_need {v h r : Int} : LC y_D_need y_M_need [vi v, vi h, vi r] := LC.tl (f := fun Z F A w => zit ((h ≠ v ∧ (0 ≤ h ∧ h < Z.1) ∧ 0 ≤ v ∧ v < Z.1) ∧ 1 ≤ r ∧ r ≤ 3) (ndA Z F A w v h r) (-1)) (fun μ Z F A w hc => by
    have hn := hc.1.1
    have e6 := hc.2.2.1.1
    refine zCw.use (zSp.ss [vr 0, vi v, vi h, vi r] rfl (w_D_need (d := 100) (by decide)) rfl rfl ?_) (by decide) (fun q μ' e => e)
    (try simp only [zit_e, Bool.and_eq_true, Bool.or_eq_true, Bool.not_eq_true', Bool.and_eq_false_iff, Bool.or_eq_false_iff, Bool.not_eq_false', zbe, zdt, zdf, zb2_p, zbp_0, zbp_1, zbp_inj, zbp_01, Bool.true_eq_false, Bool.false_eq_true, true_and, and_true, Decidable.not_not, Classical.not_not, implies_true, List.nil_append, List.cons_append, List.append_assoc, Option.some.injEq, Sum.inl.injEq, zSw_c, zSw_n]); (try simp only [zit_e, Bool.and_eq_true, Bool.or_eq_true, Bool.not_eq_true', Bool.and_eq_false_iff, Bool.or_eq_false_iff, Bool.not_eq_false', zbe, zdt, zdf, zb2_p, zbp_0, zbp_1, zbp_inj, zbp_01, Bool.true_eq_false, Bool.false_eq_true, true_and, and_true, Decidable.not_not, Classical.not_not, implies_true, List.nil_append, List.cons_append, List.append_assoc, Option.some.injEq, Sum.inl.injEq, zSw_c, zSw_n, zc_0, zc_1, zc_324, f_To_hasPair, g_To_hasPair, f_D_between, g_D_between]); (try simp only [zi_cs, zi_c0, zii_cs, zii_c0, zl_cs, zl_c0, zll_cs, zll_c0, zr_cs, zr_c0, zrr_cs, zrr_c0, zxs_cs, zxs_c0, zxx_cs, zxx_c0, zfree_c0, zfree_c1, zfree_cs, zfree_cz, zlong_i, zlong_r, zlong_x, zset_0, zset_s, true_and, and_true, Option.some.injEq, Sum.inl.injEq, Sum.inr.injEq, zb2_p, zbp_0, zbp_1, zbp_inj, zbp_01, Nat.zero_add, Nat.reduceAdd, implies_true, List.nil_append, List.cons_append, List.append_assoc, Int.not_lt, Int.not_le, Decidable.not_not, Int.zero_add, Int.reduceLE, Int.reduceLT, Int.reduceEq, Int.reduceNe, Int.reduceAdd, Int.reduceSub, Int.reduceMul, Int.reduceNeg, Int.reduceToNat, Nat.reduceMul, Nat.reduceLT, Nat.reduceEqDiff, and_self, ite_true, ite_false, zx1, zx2, zRecv, List.length_cons, List.length_nil, ne_eq, not_true_eq_false, not_false_eq_true, true_or, or_true, or_false, false_or, and_false, false_and, zf01, zf10, reduceCtorEq, zSw_c, zSw_n, zm_r, zit_T, zit_F, false_implies, true_implies, zc_0, zc_1, zc_324, f_To_hasPair, g_To_hasPair, f_D_between, g_D_between])
    rw [e6]
    refine zif (fun c => ?_) (fun c => ?_)
    · exact ⟨(zit_f (by omega)).symm, HM.rf, KC.rf⟩
    · refine zCw.use (q_Ru_needOf (d := 7) (by decide) hc (by omega) (by omega)) (by omega) (fun q μ1 e => ?_)
      exact ⟨_, e.1, (zit_t (by omega)).symm, e.2.hm, e.2.kc⟩) (fun μ Z F A w hc => by
    have hn := hc.1.1
    have e6 := hc.2.2.1.1
    refine zCw.use (zSp.ss [vr 355, vi v, vi h, vi r] rfl (w_M_need (d := 100) (by decide)) rfl rfl ?_) (by decide) (fun q μ' e => e)
    (try simp only [zit_e, Bool.and_eq_true, Bool.or_eq_true, Bool.not_eq_true', Bool.and_eq_false_iff, Bool.or_eq_false_iff, Bool.not_eq_false', zbe, zdt, zdf, zb2_p, zbp_0, zbp_1, zbp_inj, zbp_01, Bool.true_eq_false, Bool.false_eq_true, true_and, and_true, Decidable.not_not, Classical.not_not, implies_true, List.nil_append, List.cons_append, List.append_assoc, Option.some.injEq, Sum.inl.injEq, zSw_c, zSw_n]); (try simp only [zit_e, Bool.and_eq_true, Bool.or_eq_true, Bool.not_eq_true', Bool.and_eq_false_iff, Bool.or_eq_false_iff, Bool.not_eq_false', zbe, zdt, zdf, zb2_p, zbp_0, zbp_1, zbp_inj, zbp_01, Bool.true_eq_false, Bool.false_eq_true, true_and, and_true, Decidable.not_not, Classical.not_not, implies_true, List.nil_append, List.cons_append, List.append_assoc, Option.some.injEq, Sum.inl.injEq, zSw_c, zSw_n, zc_355, f_M_areTwo, g_M_areTwo, f_M_isRoom, g_M_isRoom]); (try simp only [zi_cs, zi_c0, zii_cs, zii_c0, zl_cs, zl_c0, zll_cs, zll_c0, zr_cs, zr_c0, zrr_cs, zrr_c0, zxs_cs, zxs_c0, zxx_cs, zxx_c0, zfree_c0, zfree_c1, zfree_cs, zfree_cz, zlong_i, zlong_r, zlong_x, zset_0, zset_s, true_and, and_true, Option.some.injEq, Sum.inl.injEq, Sum.inr.injEq, zb2_p, zbp_0, zbp_1, zbp_inj, zbp_01, Nat.zero_add, Nat.reduceAdd, implies_true, List.nil_append, List.cons_append, List.append_assoc, Int.not_lt, Int.not_le, Decidable.not_not, Int.zero_add, Int.reduceLE, Int.reduceLT, Int.reduceEq, Int.reduceNe, Int.reduceAdd, Int.reduceSub, Int.reduceMul, Int.reduceNeg, Int.reduceToNat, Nat.reduceMul, Nat.reduceLT, Nat.reduceEqDiff, and_self, ite_true, ite_false, zx1, zx2, zRecv, List.length_cons, List.length_nil, ne_eq, not_true_eq_false, not_false_eq_true, true_or, or_true, or_false, false_or, and_false, false_and, zf01, zf10, reduceCtorEq, zSw_c, zSw_n, zm_r, zit_T, zit_F, false_implies, true_implies, zc_355, f_M_areTwo, g_M_areTwo, f_M_isRoom, g_M_isRoom])
    rw [e6]
    refine ⟨by omega, ?_⟩
    refine zif (fun c => ?_) (fun c => ?_)
    · refine zCw.use (q_M_needOf (d := 49) (by decide) hc (by omega) (by omega)) (by omega) (fun q μ1 e => ?_)
      exact ⟨_, e.1, (zit_t (by omega)).symm, e.2.hc, e.2.km⟩
    · exact ⟨(zit_f (by omega)).symm, HC.rf, KM.rf⟩)
theorem LC_shut {v h r : Int} : LC y_D_shut y_M_shut [vi h, vi v, vi r] := LC.tl (f := fun Z F A w => zit ((h ≠ v ∧ (0 ≤ h ∧ h < Z.1) ∧ 0 ≤ v ∧ v < Z.1) ∧ 1 ≤ r ∧ r ≤ 3) (shA Z F A w h v r) (-1)) (fun μ Z F A w hc => by
    have hn := hc.1.1
    have e6 := hc.2.2.1.1
    refine zCw.use (zSp.ss [vr 0, vi h, vi v, vi r] rfl (w_D_shut (d := 100) (by decide)) rfl rfl ?_) (by decide) (fun q μ' e => e)
    (try simp only [zit_e, Bool.and_eq_true, Bool.or_eq_true, Bool.not_eq_true', Bool.and_eq_false_iff, Bool.or_eq_false_iff, Bool.not_eq_false', zbe, zdt, zdf, zb2_p, zbp_0, zbp_1, zbp_inj, zbp_01, Bool.true_eq_false, Bool.false_eq_true, true_and, and_true, Decidable.not_not, Classical.not_not, implies_true, List.nil_append, List.cons_append, List.append_assoc, Option.some.injEq, Sum.inl.injEq, zSw_c, zSw_n]); (try simp only [zit_e, Bool.and_eq_true, Bool.or_eq_true, Bool.not_eq_true', Bool.and_eq_false_iff, Bool.or_eq_false_iff, Bool.not_eq_false', zbe, zdt, zdf, zb2_p, zbp_0, zbp_1, zbp_inj, zbp_01, Bool.true_eq_false, Bool.false_eq_true, true_and, and_true, Decidable.not_not, Classical.not_not, implies_true, List.nil_append, List.cons_append, List.append_assoc, Option.some.injEq, Sum.inl.injEq, zSw_c, zSw_n, zc_0, zc_1, zc_324, f_To_hasPair, g_To_hasPair, f_D_between, g_D_between]); (try simp only [zi_cs, zi_c0, zii_cs, zii_c0, zl_cs, zl_c0, zll_cs, zll_c0, zr_cs, zr_c0, zrr_cs, zrr_c0, zxs_cs, zxs_c0, zxx_cs, zxx_c0, zfree_c0, zfree_c1, zfree_cs, zfree_cz, zlong_i, zlong_r, zlong_x, zset_0, zset_s, true_and, and_true, Option.some.injEq, Sum.inl.injEq, Sum.inr.injEq, zb2_p, zbp_0, zbp_1, zbp_inj, zbp_01, Nat.zero_add, Nat.reduceAdd, implies_true, List.nil_append, List.cons_append, List.append_assoc, Int.not_lt, Int.not_le, Decidable.not_not, Int.zero_add, Int.reduceLE, Int.reduceLT, Int.reduceEq, Int.reduceNe, Int.reduceAdd, Int.reduceSub, Int.reduceMul, Int.reduceNeg, Int.reduceToNat, Nat.reduceMul, Nat.reduceLT, Nat.reduceEqDiff, and_self, ite_true, ite_false, zx1, zx2, zRecv, List.length_cons, List.length_nil, ne_eq, not_true_eq_false, not_false_eq_true, true_or, or_true, or_false, false_or, and_false, false_and, zf01, zf10, reduceCtorEq, zSw_c, zSw_n, zm_r, zit_T, zit_F, false_implies, true_implies, zc_0, zc_1, zc_324, f_To_hasPair, g_To_hasPair, f_D_between, g_D_between])
    rw [e6]
    refine zif (fun c => ?_) (fun c => ?_)
    · exact ⟨(zit_f (by omega)).symm, HM.rf, KC.rf⟩
    · refine zCw.use (q_Ru_shutBy (d := 7) (by decide) hc (by omega) (by omega)) (by omega) (fun q μ1 e => ?_)
      exact ⟨_, e.1, (zit_t (by omega)).symm, e.2.hm, e.2.kc⟩) (fun μ Z F A w hc => by
    have hn := hc.1.1
    have e6 := hc.2.2.1.1
    refine zCw.use (zSp.ss [vr 355, vi h, vi v, vi r] rfl (w_M_shut (d := 100) (by decide)) rfl rfl ?_) (by decide) (fun q μ' e => e)
    (try simp only [zit_e, Bool.and_eq_true, Bool.or_eq_true, Bool.not_eq_true', Bool.and_eq_false_iff, Bool.or_eq_false_iff, Bool.not_eq_false', zbe, zdt, zdf, zb2_p, zbp_0, zbp_1, zbp_inj, zbp_01, Bool.true_eq_false, Bool.false_eq_true, true_and, and_true, Decidable.not_not, Classical.not_not, implies_true, List.nil_append, List.cons_append, List.append_assoc, Option.some.injEq, Sum.inl.injEq, zSw_c, zSw_n]); (try simp only [zit_e, Bool.and_eq_true, Bool.or_eq_true, Bool.not_eq_true', Bool.and_eq_false_iff, Bool.or_eq_false_iff, Bool.not_eq_false', zbe, zdt, zdf, zb2_p, zbp_0, zbp_1, zbp_inj, zbp_01, Bool.true_eq_false, Bool.false_eq_true, true_and, and_true, Decidable.not_not, Classical.not_not, implies_true, List.nil_append, List.cons_append, List.append_assoc, Option.some.injEq, Sum.inl.injEq, zSw_c, zSw_n, zc_355, f_M_areTwo, g_M_areTwo, f_M_isRoom, g_M_isRoom]); (try simp only [zi_cs, zi_c0, zii_cs, zii_c0, zl_cs, zl_c0, zll_cs, zll_c0, zr_cs, zr_c0, zrr_cs, zrr_c0, zxs_cs, zxs_c0, zxx_cs, zxx_c0, zfree_c0, zfree_c1, zfree_cs, zfree_cz, zlong_i, zlong_r, zlong_x, zset_0, zset_s, true_and, and_true, Option.some.injEq, Sum.inl.injEq, Sum.inr.injEq, zb2_p, zbp_0, zbp_1, zbp_inj, zbp_01, Nat.zero_add, Nat.reduceAdd, implies_true, List.nil_append, List.cons_append, List.append_assoc, Int.not_lt, Int.not_le, Decidable.not_not, Int.zero_add, Int.reduceLE, Int.reduceLT, Int.reduceEq, Int.reduceNe, Int.reduceAdd, Int.reduceSub, Int.reduceMul, Int.reduceNeg, Int.reduceToNat, Nat.reduceMul, Nat.reduceLT, Nat.reduceEqDiff, and_self, ite_true, ite_false, zx1, zx2, zRecv, List.length_cons, List.length_nil, ne_eq, not_true_eq_false, not_false_eq_true, true_or, or_true, or_false, false_or, and_false, false_and, zf01, zf10, reduceCtorEq, zSw_c, zSw_n, zm_r, zit_T, zit_F, false_implies, true_implies, zc_355, f_M_areTwo, g_M_areTwo, f_M_isRoom, g_M_isRoom])
    rw [e6]
    refine ⟨by omega, ?_⟩
    refine zif (fun c => ?_) (fun c => ?_)
    · refine zCw.use (q_M_shutBy (d := 49) (by decide) hc (by omega) (by omega)) (by omega) (fun q μ1 e => ?_)
      exact ⟨_, e.1, (zit_t (by omega)).symm, e.2.hc, e.2.km⟩
    · exact ⟨(zit_f (by omega)).symm, HC.rf, KM.rf⟩)
/-- sums over all but one, none if one is none -/
noncomputable def smN (f : Int → Int) (p : Int) : Nat → Int → Int → Int
  | 0, s, _ => s
  | n + 1, s, x => zit (x = p) (smN f p n s (x + 1)) (zit (f x = -1) (-1) (smN f p n (s + f x) (x + 1)))
theorem smN_s {f : Int → Int} {p s : Int} {n j : Nat} (h : j < n) : smN f p (n - j) s j = zit ((j : Int) = p) (smN f p (n - (j + 1)) s ((j + 1 : Nat) : Int)) (zit (f j = -1) (-1) (smN f p (n - (j + 1)) (s + f j) ((j + 1 : Nat) : Int))) := by
  rw [show n - j = (n - (j + 1)) + 1 by omega, smN]
  rfl
theorem smN_in {f : Int → Int} {p : Int} (hf : ∀ x, -1 ≤ f x ∧ f x ≤ 160000) : ∀ (n : Nat) (s x : Int), 0 ≤ s → -1 ≤ smN f p n s x ∧ smN f p n s x ≤ s + 160000 * n
  | 0, s, x, h => by
    unfold smN
    omega
  | n + 1, s, x, h => by
    have h1 := smN_in hf (p := p) n s (x + 1) h
    have h3 := hf x
    unfold smN zit
    split
    · omega
    · split
      · omega
      · have h2 := smN_in hf (p := p) n (s + f x) (x + 1) (by omega)
        omega
noncomputable def bnA (Z : Zt) (F : Option (List Cls)) (A : Lg) (w : Int → Int) (p : Int) : Int := smN (fun h => shA Z F A w h p 1) p Z.1.toNat 0 0
noncomputable def pnA (Z : Zt) (F : Option (List Cls)) (A : Lg) (w : Int → Int) (h : Int) : Int := smN (fun v => ndA Z F A w v h 1) h Z.1.toNat 0 0
theorem pnA_in {Z : Zt} {F : Option (List Cls)} {A : Lg} {w : Int → Int} (hZ : okZ Z) (h : Int) : -1 ≤ pnA Z F A w h ∧ pnA Z F A w h ≤ 1120000 := by
  have hn := hZ.1
  have := smN_in (f := fun v => ndA Z F A w v h 1) (p := h) (fun x => ⟨ndA_in.1, Int.le_trans ndA_in.2 (by decide)⟩) Z.1.toNat 0 0 (by decide)
  unfold pnA
  omega
def y_D_ban : zMt := (⟨"DebtDoors", "ban", "(I)I"⟩, prog_1_method_47_code, 5, some .int)
theorem d_D_ban_0 : decode prog_1_method_47_code 0 = .ok (.aload_n 0, 1) := by decide +kernel
theorem d_D_ban_1 : decode prog_1_method_47_code 1 = .ok (.getfield 12, 3) := by decide +kernel
theorem d_D_ban_4 : decode prog_1_method_47_code 4 = .ok (.iload_n 1, 1) := by decide +kernel
theorem d_D_ban_5 : decode prog_1_method_47_code 5 = .ok (.invokevirtual 137, 3) := by decide +kernel
theorem d_D_ban_8 : decode prog_1_method_47_code 8 = .ok (.ifCond .ne 5, 3) := by decide +kernel
theorem d_D_ban_11 : decode prog_1_method_47_code 11 = .ok (.iconst (-1), 1) := by decide +kernel
theorem d_D_ban_12 : decode prog_1_method_47_code 12 = .ok (.ireturn, 1) := by decide +kernel
theorem d_D_ban_13 : decode prog_1_method_47_code 13 = .ok (.iconst 0, 1) := by decide +kernel
theorem d_D_ban_14 : decode prog_1_method_47_code 14 = .ok (.istore_n 2, 1) := by decide +kernel
theorem d_D_ban_15 : decode prog_1_method_47_code 15 = .ok (.iconst 0, 1) := by decide +kernel
theorem d_D_ban_16 : decode prog_1_method_47_code 16 = .ok (.istore_n 3, 1) := by decide +kernel
theorem d_D_ban_17 : decode prog_1_method_47_code 17 = .ok (.iload_n 3, 1) := by decide +kernel
theorem d_D_ban_18 : decode prog_1_method_47_code 18 = .ok (.aload_n 0, 1) := by decide +kernel
theorem d_D_ban_19 : decode prog_1_method_47_code 19 = .ok (.getfield 12, 3) := by decide +kernel
theorem d_D_ban_22 : decode prog_1_method_47_code 22 = .ok (.getfield 112, 3) := by decide +kernel
theorem d_D_ban_25 : decode prog_1_method_47_code 25 = .ok (.if_icmp .ge 46, 3) := by decide +kernel
theorem d_D_ban_28 : decode prog_1_method_47_code 28 = .ok (.iload_n 3, 1) := by decide +kernel
theorem d_D_ban_29 : decode prog_1_method_47_code 29 = .ok (.iload_n 1, 1) := by decide +kernel
theorem d_D_ban_30 : decode prog_1_method_47_code 30 = .ok (.if_icmp .ne 6, 3) := by decide +kernel
theorem d_D_ban_33 : decode prog_1_method_47_code 33 = .ok (.goto 32, 3) := by decide +kernel
theorem d_D_ban_36 : decode prog_1_method_47_code 36 = .ok (.aload_n 0, 1) := by decide +kernel
theorem d_D_ban_37 : decode prog_1_method_47_code 37 = .ok (.getfield 51, 3) := by decide +kernel
theorem d_D_ban_40 : decode prog_1_method_47_code 40 = .ok (.aload_n 0, 1) := by decide +kernel
theorem d_D_ban_41 : decode prog_1_method_47_code 41 = .ok (.getfield 12, 3) := by decide +kernel
theorem d_D_ban_44 : decode prog_1_method_47_code 44 = .ok (.iload_n 3, 1) := by decide +kernel
theorem d_D_ban_45 : decode prog_1_method_47_code 45 = .ok (.iload_n 1, 1) := by decide +kernel
theorem d_D_ban_46 : decode prog_1_method_47_code 46 = .ok (.iconst 1, 1) := by decide +kernel
theorem d_D_ban_47 : decode prog_1_method_47_code 47 = .ok (.invokevirtual 376, 3) := by decide +kernel
theorem d_D_ban_50 : decode prog_1_method_47_code 50 = .ok (.istore 4, 2) := by decide +kernel
theorem d_D_ban_52 : decode prog_1_method_47_code 52 = .ok (.iload 4, 2) := by decide +kernel
theorem d_D_ban_54 : decode prog_1_method_47_code 54 = .ok (.iconst (-1), 1) := by decide +kernel
theorem d_D_ban_55 : decode prog_1_method_47_code 55 = .ok (.if_icmp .ne 5, 3) := by decide +kernel
theorem d_D_ban_58 : decode prog_1_method_47_code 58 = .ok (.iconst (-1), 1) := by decide +kernel
theorem d_D_ban_59 : decode prog_1_method_47_code 59 = .ok (.ireturn, 1) := by decide +kernel
theorem d_D_ban_60 : decode prog_1_method_47_code 60 = .ok (.iload_n 2, 1) := by decide +kernel
theorem d_D_ban_61 : decode prog_1_method_47_code 61 = .ok (.iload 4, 2) := by decide +kernel
theorem d_D_ban_63 : decode prog_1_method_47_code 63 = .ok (.iadd, 1) := by decide +kernel
theorem d_D_ban_64 : decode prog_1_method_47_code 64 = .ok (.istore_n 2, 1) := by decide +kernel
theorem d_D_ban_65 : decode prog_1_method_47_code 65 = .ok (.iinc 3 1, 3) := by decide +kernel
theorem d_D_ban_68 : decode prog_1_method_47_code 68 = .ok (.goto (-51), 3) := by decide +kernel
theorem d_D_ban_71 : decode prog_1_method_47_code 71 = .ok (.iload_n 2, 1) := by decide +kernel
theorem d_D_ban_72 : decode prog_1_method_47_code 72 = .ok (.ireturn, 1) := by decide +kernel
def w_D_ban {d : Nat} (hd : 2 ≤ d) := (show SS ("DebtDoors", prog_1_method_47_code, 5) (some .int) d 0 0 0 0 _ from (sS (p1 := 13) (sIf (pn := 13) (tt := 11) (xC (rNot (rJ1 (tgt := 13) k_ne (rV p_To_has (Nat.le_trans (Nat.le_of_ble_eq_true rfl) hd) lv_D_137 (rAi (rAr rA0 (rFr fl_D_12 nk_11_0 (rAn 0 d_D_ban_0 rfl) d_D_ban_1)) (rIn 1 d_D_ban_4 rfl)) (by decide) d_D_ban_5) d_D_ban_8 (by decide)))) (sRi (xE (rI d_D_ban_11 rfl)) d_D_ban_12 rfl)) (sS (p1 := 15) (sIn 2 (xE (rI d_D_ban_13 rfl)) d_D_ban_14 rfl (by decide)) (sS (p1 := 71) (sS (p1 := 17) (sIn 3 (xE (rI d_D_ban_15 rfl)) d_D_ban_16 rfl (by decide)) (sLp (ps := 65) (tt := 28) (pn := 71) (p1 := 0) (p2 := 0) (xC (rNot (rJ2 (tgt := 71) j_ge (rIn 3 d_D_ban_17 rfl) (rF 6 fl_D_112 nk_9_6 (rFr fl_D_12 nk_11_0 (rAn 0 d_D_ban_18 rfl) d_D_ban_19) d_D_ban_22 rfl) d_D_ban_25 (by decide)))) (sS (p1 := 36) (sIf (pn := 36) (tt := 65) (xC (rGt (p2 := 65) (rNot (rJ2 (tgt := 36) j_ne (rIn 3 d_D_ban_28 rfl) (rIn 1 d_D_ban_29 rfl) d_D_ban_30 (by decide))) d_D_ban_33 (by decide))) sCo0) (sS (p1 := 52) (sI (xV lv_D_376 (xA (rAi (rAi (rAi (rAr (rAr rA0 (rFr fl_D_51 nk_11_7 (rAn 0 d_D_ban_36 rfl) d_D_ban_37)) (rFr fl_D_12 nk_11_0 (rAn 0 d_D_ban_40 rfl) d_D_ban_41)) (rIn 3 d_D_ban_44 rfl)) (rIn 1 d_D_ban_45 rfl)) (rI d_D_ban_46 rfl))) (by decide) d_D_ban_47) d_D_ban_50 (by decide)) (sS (p1 := 60) (sIf (pn := 60) (tt := 58) (xC (rNot (rJ2 (tgt := 60) j_ne (rIl d_D_ban_52) (rI d_D_ban_54 rfl) d_D_ban_55 (by decide)))) (sRi (xE (rI d_D_ban_58 rfl)) d_D_ban_59 rfl)) (sIn 2 (xE (r2 o_add (rIn 2 d_D_ban_60 rfl) (rIl d_D_ban_61) d_D_ban_63)) d_D_ban_64 rfl (by decide))))) (sGo (pn := 17) (sInc d_D_ban_65 (by decide)) d_D_ban_68 (by decide)))) (sRi (xE (rIn 2 d_D_ban_71 rfl)) d_D_ban_72 rfl)))))
def y_M_ban : zMt := (⟨"DebtDoorsModel", "ban", "(I)I"⟩, prog_14_method_118_code, 5, some .int)
theorem d_M_ban_0 : decode prog_14_method_118_code 0 = .ok (.aload_n 0, 1) := by decide +kernel
theorem d_M_ban_1 : decode prog_14_method_118_code 1 = .ok (.iload_n 1, 1) := by decide +kernel
theorem d_M_ban_2 : decode prog_14_method_118_code 2 = .ok (.invokevirtual 152, 3) := by decide +kernel
theorem d_M_ban_5 : decode prog_14_method_118_code 5 = .ok (.ifCond .ne 5, 3) := by decide +kernel
theorem d_M_ban_8 : decode prog_14_method_118_code 8 = .ok (.iconst (-1), 1) := by decide +kernel
theorem d_M_ban_9 : decode prog_14_method_118_code 9 = .ok (.ireturn, 1) := by decide +kernel
theorem d_M_ban_10 : decode prog_14_method_118_code 10 = .ok (.iconst 0, 1) := by decide +kernel
theorem d_M_ban_11 : decode prog_14_method_118_code 11 = .ok (.istore_n 2, 1) := by decide +kernel
theorem d_M_ban_12 : decode prog_14_method_118_code 12 = .ok (.iconst 0, 1) := by decide +kernel
theorem d_M_ban_13 : decode prog_14_method_118_code 13 = .ok (.istore_n 3, 1) := by decide +kernel
theorem d_M_ban_14 : decode prog_14_method_118_code 14 = .ok (.iload_n 3, 1) := by decide +kernel
theorem d_M_ban_15 : decode prog_14_method_118_code 15 = .ok (.aload_n 0, 1) := by decide +kernel
theorem d_M_ban_16 : decode prog_14_method_118_code 16 = .ok (.invokevirtual 133, 3) := by decide +kernel
theorem d_M_ban_19 : decode prog_14_method_118_code 19 = .ok (.if_icmp .ge 39, 3) := by decide +kernel
theorem d_M_ban_22 : decode prog_14_method_118_code 22 = .ok (.iload_n 3, 1) := by decide +kernel
theorem d_M_ban_23 : decode prog_14_method_118_code 23 = .ok (.iload_n 1, 1) := by decide +kernel
theorem d_M_ban_24 : decode prog_14_method_118_code 24 = .ok (.if_icmp .ne 6, 3) := by decide +kernel
theorem d_M_ban_27 : decode prog_14_method_118_code 27 = .ok (.goto 25, 3) := by decide +kernel
theorem d_M_ban_30 : decode prog_14_method_118_code 30 = .ok (.aload_n 0, 1) := by decide +kernel
theorem d_M_ban_31 : decode prog_14_method_118_code 31 = .ok (.iload_n 3, 1) := by decide +kernel
theorem d_M_ban_32 : decode prog_14_method_118_code 32 = .ok (.iload_n 1, 1) := by decide +kernel
theorem d_M_ban_33 : decode prog_14_method_118_code 33 = .ok (.iconst 1, 1) := by decide +kernel
theorem d_M_ban_34 : decode prog_14_method_118_code 34 = .ok (.invokevirtual 442, 3) := by decide +kernel
theorem d_M_ban_37 : decode prog_14_method_118_code 37 = .ok (.istore 4, 2) := by decide +kernel
theorem d_M_ban_39 : decode prog_14_method_118_code 39 = .ok (.iload 4, 2) := by decide +kernel
theorem d_M_ban_41 : decode prog_14_method_118_code 41 = .ok (.iconst (-1), 1) := by decide +kernel
theorem d_M_ban_42 : decode prog_14_method_118_code 42 = .ok (.if_icmp .ne 5, 3) := by decide +kernel
theorem d_M_ban_45 : decode prog_14_method_118_code 45 = .ok (.iconst (-1), 1) := by decide +kernel
theorem d_M_ban_46 : decode prog_14_method_118_code 46 = .ok (.ireturn, 1) := by decide +kernel
theorem d_M_ban_47 : decode prog_14_method_118_code 47 = .ok (.iload_n 2, 1) := by decide +kernel
theorem d_M_ban_48 : decode prog_14_method_118_code 48 = .ok (.iload 4, 2) := by decide +kernel
theorem d_M_ban_50 : decode prog_14_method_118_code 50 = .ok (.iadd, 1) := by decide +kernel
theorem d_M_ban_51 : decode prog_14_method_118_code 51 = .ok (.istore_n 2, 1) := by decide +kernel
theorem d_M_ban_52 : decode prog_14_method_118_code 52 = .ok (.iinc 3 1, 3) := by decide +kernel
theorem d_M_ban_55 : decode prog_14_method_118_code 55 = .ok (.goto (-41), 3) := by decide +kernel
theorem d_M_ban_58 : decode prog_14_method_118_code 58 = .ok (.iload_n 2, 1) := by decide +kernel
theorem d_M_ban_59 : decode prog_14_method_118_code 59 = .ok (.ireturn, 1) := by decide +kernel
def w_M_ban {d : Nat} (hd : 3 ≤ d) := (show SS ("DebtDoorsModel", prog_14_method_118_code, 5) (some .int) d 0 0 0 0 _ from (sS (p1 := 10) (sIf (pn := 10) (tt := 8) (xC (rNot (rJ1 (tgt := 10) k_ne (rV p_M_isPerson (Nat.le_trans (Nat.le_of_ble_eq_true rfl) hd) lv_M_152 (rAi (rAr rA0 (rAn 0 d_M_ban_0 rfl)) (rIn 1 d_M_ban_1 rfl)) (by decide) d_M_ban_2) d_M_ban_5 (by decide)))) (sRi (xE (rI d_M_ban_8 rfl)) d_M_ban_9 rfl)) (sS (p1 := 12) (sIn 2 (xE (rI d_M_ban_10 rfl)) d_M_ban_11 rfl (by decide)) (sS (p1 := 58) (sS (p1 := 14) (sIn 3 (xE (rI d_M_ban_12 rfl)) d_M_ban_13 rfl (by decide)) (sLp (ps := 52) (tt := 22) (pn := 58) (p1 := 0) (p2 := 0) (xC (rNot (rJ2 (tgt := 58) j_ge (rIn 3 d_M_ban_14 rfl) (rV p_M_people (Nat.le_trans (Nat.le_of_ble_eq_true rfl) hd) lv_M_133 (rAr rA0 (rAn 0 d_M_ban_15 rfl)) (by decide) d_M_ban_16) d_M_ban_19 (by decide)))) (sS (p1 := 30) (sIf (pn := 30) (tt := 52) (xC (rGt (p2 := 52) (rNot (rJ2 (tgt := 30) j_ne (rIn 3 d_M_ban_22 rfl) (rIn 1 d_M_ban_23 rfl) d_M_ban_24 (by decide))) d_M_ban_27 (by decide))) sCo0) (sS (p1 := 39) (sI (xV lv_M_442 (xA (rAi (rAi (rAi (rAr rA0 (rAn 0 d_M_ban_30 rfl)) (rIn 3 d_M_ban_31 rfl)) (rIn 1 d_M_ban_32 rfl)) (rI d_M_ban_33 rfl))) (by decide) d_M_ban_34) d_M_ban_37 (by decide)) (sS (p1 := 47) (sIf (pn := 47) (tt := 45) (xC (rNot (rJ2 (tgt := 47) j_ne (rIl d_M_ban_39) (rI d_M_ban_41 rfl) d_M_ban_42 (by decide)))) (sRi (xE (rI d_M_ban_45 rfl)) d_M_ban_46 rfl)) (sIn 2 (xE (r2 o_add (rIn 2 d_M_ban_47 rfl) (rIl d_M_ban_48) d_M_ban_50)) d_M_ban_51 rfl (by decide))))) (sGo (pn := 14) (sInc d_M_ban_52 (by decide)) d_M_ban_55 (by decide)))) (sRi (xE (rIn 2 d_M_ban_58 rfl)) d_M_ban_59 rfl)))))
def y_D_partyNeeds : zMt := (⟨"DebtDoors", "partyNeeds", "(I)I"⟩, prog_1_method_49_code, 5, some .int)
theorem d_D_partyNeeds_0 : decode prog_1_method_49_code 0 = .ok (.iconst 0, 1) := by decide +kernel
theorem d_D_partyNeeds_1 : decode prog_1_method_49_code 1 = .ok (.istore_n 2, 1) := by decide +kernel
theorem d_D_partyNeeds_2 : decode prog_1_method_49_code 2 = .ok (.iconst 0, 1) := by decide +kernel
theorem d_D_partyNeeds_3 : decode prog_1_method_49_code 3 = .ok (.istore_n 3, 1) := by decide +kernel
theorem d_D_partyNeeds_4 : decode prog_1_method_49_code 4 = .ok (.iload_n 3, 1) := by decide +kernel
theorem d_D_partyNeeds_5 : decode prog_1_method_49_code 5 = .ok (.aload_n 0, 1) := by decide +kernel
theorem d_D_partyNeeds_6 : decode prog_1_method_49_code 6 = .ok (.getfield 12, 3) := by decide +kernel
theorem d_D_partyNeeds_9 : decode prog_1_method_49_code 9 = .ok (.getfield 112, 3) := by decide +kernel
theorem d_D_partyNeeds_12 : decode prog_1_method_49_code 12 = .ok (.if_icmp .ge 46, 3) := by decide +kernel
theorem d_D_partyNeeds_15 : decode prog_1_method_49_code 15 = .ok (.iload_n 3, 1) := by decide +kernel
theorem d_D_partyNeeds_16 : decode prog_1_method_49_code 16 = .ok (.iload_n 1, 1) := by decide +kernel
theorem d_D_partyNeeds_17 : decode prog_1_method_49_code 17 = .ok (.if_icmp .ne 6, 3) := by decide +kernel
theorem d_D_partyNeeds_20 : decode prog_1_method_49_code 20 = .ok (.goto 32, 3) := by decide +kernel
theorem d_D_partyNeeds_23 : decode prog_1_method_49_code 23 = .ok (.aload_n 0, 1) := by decide +kernel
theorem d_D_partyNeeds_24 : decode prog_1_method_49_code 24 = .ok (.getfield 51, 3) := by decide +kernel
theorem d_D_partyNeeds_27 : decode prog_1_method_49_code 27 = .ok (.aload_n 0, 1) := by decide +kernel
theorem d_D_partyNeeds_28 : decode prog_1_method_49_code 28 = .ok (.getfield 12, 3) := by decide +kernel
theorem d_D_partyNeeds_31 : decode prog_1_method_49_code 31 = .ok (.iload_n 3, 1) := by decide +kernel
theorem d_D_partyNeeds_32 : decode prog_1_method_49_code 32 = .ok (.iload_n 1, 1) := by decide +kernel
theorem d_D_partyNeeds_33 : decode prog_1_method_49_code 33 = .ok (.iconst 1, 1) := by decide +kernel
theorem d_D_partyNeeds_34 : decode prog_1_method_49_code 34 = .ok (.invokevirtual 334, 3) := by decide +kernel
theorem d_D_partyNeeds_37 : decode prog_1_method_49_code 37 = .ok (.istore 4, 2) := by decide +kernel
theorem d_D_partyNeeds_39 : decode prog_1_method_49_code 39 = .ok (.iload 4, 2) := by decide +kernel
theorem d_D_partyNeeds_41 : decode prog_1_method_49_code 41 = .ok (.iconst (-1), 1) := by decide +kernel
theorem d_D_partyNeeds_42 : decode prog_1_method_49_code 42 = .ok (.if_icmp .ne 5, 3) := by decide +kernel
theorem d_D_partyNeeds_45 : decode prog_1_method_49_code 45 = .ok (.iconst (-1), 1) := by decide +kernel
theorem d_D_partyNeeds_46 : decode prog_1_method_49_code 46 = .ok (.ireturn, 1) := by decide +kernel
theorem d_D_partyNeeds_47 : decode prog_1_method_49_code 47 = .ok (.iload_n 2, 1) := by decide +kernel
theorem d_D_partyNeeds_48 : decode prog_1_method_49_code 48 = .ok (.iload 4, 2) := by decide +kernel
theorem d_D_partyNeeds_50 : decode prog_1_method_49_code 50 = .ok (.iadd, 1) := by decide +kernel
theorem d_D_partyNeeds_51 : decode prog_1_method_49_code 51 = .ok (.istore_n 2, 1) := by decide +kernel
theorem d_D_partyNeeds_52 : decode prog_1_method_49_code 52 = .ok (.iinc 3 1, 3) := by decide +kernel
theorem d_D_partyNeeds_55 : decode prog_1_method_49_code 55 = .ok (.goto (-51), 3) := by decide +kernel
theorem d_D_partyNeeds_58 : decode prog_1_method_49_code 58 = .ok (.iload_n 2, 1) := by decide +kernel
theorem d_D_partyNeeds_59 : decode prog_1_method_49_code 59 = .ok (.ireturn, 1) := by decide +kernel
def w_D_partyNeeds {d : Nat} (hd : 1 ≤ d) := (show SS ("DebtDoors", prog_1_method_49_code, 5) (some .int) d 0 0 0 0 _ from (sS (p1 := 2) (sIn 2 (xE (rI d_D_partyNeeds_0 rfl)) d_D_partyNeeds_1 rfl (by decide)) (sS (p1 := 58) (sS (p1 := 4) (sIn 3 (xE (rI d_D_partyNeeds_2 rfl)) d_D_partyNeeds_3 rfl (by decide)) (sLp (ps := 52) (tt := 15) (pn := 58) (p1 := 0) (p2 := 0) (xC (rNot (rJ2 (tgt := 58) j_ge (rIn 3 d_D_partyNeeds_4 rfl) (rF 6 fl_D_112 nk_9_6 (rFr fl_D_12 nk_11_0 (rAn 0 d_D_partyNeeds_5 rfl) d_D_partyNeeds_6) d_D_partyNeeds_9 rfl) d_D_partyNeeds_12 (by decide)))) (sS (p1 := 23) (sIf (pn := 23) (tt := 52) (xC (rGt (p2 := 52) (rNot (rJ2 (tgt := 23) j_ne (rIn 3 d_D_partyNeeds_15 rfl) (rIn 1 d_D_partyNeeds_16 rfl) d_D_partyNeeds_17 (by decide))) d_D_partyNeeds_20 (by decide))) sCo0) (sS (p1 := 39) (sI (xV lv_D_334 (xA (rAi (rAi (rAi (rAr (rAr rA0 (rFr fl_D_51 nk_11_7 (rAn 0 d_D_partyNeeds_23 rfl) d_D_partyNeeds_24)) (rFr fl_D_12 nk_11_0 (rAn 0 d_D_partyNeeds_27 rfl) d_D_partyNeeds_28)) (rIn 3 d_D_partyNeeds_31 rfl)) (rIn 1 d_D_partyNeeds_32 rfl)) (rI d_D_partyNeeds_33 rfl))) (by decide) d_D_partyNeeds_34) d_D_partyNeeds_37 (by decide)) (sS (p1 := 47) (sIf (pn := 47) (tt := 45) (xC (rNot (rJ2 (tgt := 47) j_ne (rIl d_D_partyNeeds_39) (rI d_D_partyNeeds_41 rfl) d_D_partyNeeds_42 (by decide)))) (sRi (xE (rI d_D_partyNeeds_45 rfl)) d_D_partyNeeds_46 rfl)) (sIn 2 (xE (r2 o_add (rIn 2 d_D_partyNeeds_47 rfl) (rIl d_D_partyNeeds_48) d_D_partyNeeds_50)) d_D_partyNeeds_51 rfl (by decide))))) (sGo (pn := 4) (sInc d_D_partyNeeds_52 (by decide)) d_D_partyNeeds_55 (by decide)))) (sRi (xE (rIn 2 d_D_partyNeeds_58 rfl)) d_D_partyNeeds_59 rfl))))
theorem m_D_partyNeeds : Cond.instanceMethod y_D_partyNeeds.1 ∈ zTb ∧ Cond.selects y_D_partyNeeds.1.cls y_D_partyNeeds.1 y_D_partyNeeds.1 ∈ zTb ∧ Cond.initialized y_D_partyNeeds.1.cls ∈ zTb ∧ Cond.code y_D_partyNeeds.1 y_D_partyNeeds.2.1 y_D_partyNeeds.2.2.1 y_D_partyNeeds.2.2.2 ∈ zTb ∧ (y_D_partyNeeds.1.cls ≠ "java/lang/invoke/MethodHandle" ∧ y_D_partyNeeds.1.cls ≠ "java/lang/invoke/VarHandle" ∧ (parseMethodDescriptor y_D_partyNeeds.1.desc).map (fun d => d.parameters.length) = some 1) ∧ y_D_partyNeeds.2.2.1 ≤ 20 :=
  ⟨(zTb_in 1207 (by decide +kernel) (by decide +kernel)), (List.mem_filter.mpr ⟨List.mem_append_left _ (by decide +kernel), by decide +kernel⟩), (zTb_in 139 (by decide +kernel) (by decide +kernel)), (zTb_in 1208 (by decide +kernel) (by decide +kernel)), by decide +kernel, by decide +kernel⟩
theorem lv_D_379 : zLv "DebtDoors" 379 y_D_partyNeeds 1 11 := ⟨⟨(zTb_in 1205 (by decide +kernel) (by decide +kernel)), m_D_partyNeeds.1, m_D_partyNeeds.2.1, m_D_partyNeeds.2.2⟩, _, rfl, rfl⟩
def y_D_party : zMt := (⟨"DebtDoors", "party", "(I)I"⟩, prog_1_method_48_code, 6, some .int)
theorem d_D_party_0 : decode prog_1_method_48_code 0 = .ok (.iload_n 1, 1) := by decide +kernel
theorem d_D_party_1 : decode prog_1_method_48_code 1 = .ok (.iconst 0, 1) := by decide +kernel
theorem d_D_party_2 : decode prog_1_method_48_code 2 = .ok (.iconst 1, 1) := by decide +kernel
theorem d_D_party_3 : decode prog_1_method_48_code 3 = .ok (.invokestatic 104, 3) := by decide +kernel
theorem d_D_party_6 : decode prog_1_method_48_code 6 = .ok (.ifCond .ne 5, 3) := by decide +kernel
theorem d_D_party_9 : decode prog_1_method_48_code 9 = .ok (.iconst (-1), 1) := by decide +kernel
theorem d_D_party_10 : decode prog_1_method_48_code 10 = .ok (.ireturn, 1) := by decide +kernel
theorem d_D_party_11 : decode prog_1_method_48_code 11 = .ok (.iconst (-1), 1) := by decide +kernel
theorem d_D_party_12 : decode prog_1_method_48_code 12 = .ok (.istore_n 2, 1) := by decide +kernel
theorem d_D_party_13 : decode prog_1_method_48_code 13 = .ok (.iconst (-1), 1) := by decide +kernel
theorem d_D_party_14 : decode prog_1_method_48_code 14 = .ok (.istore_n 3, 1) := by decide +kernel
theorem d_D_party_15 : decode prog_1_method_48_code 15 = .ok (.iconst 0, 1) := by decide +kernel
theorem d_D_party_16 : decode prog_1_method_48_code 16 = .ok (.istore 4, 2) := by decide +kernel
theorem d_D_party_18 : decode prog_1_method_48_code 18 = .ok (.iload 4, 2) := by decide +kernel
theorem d_D_party_20 : decode prog_1_method_48_code 20 = .ok (.aload_n 0, 1) := by decide +kernel
theorem d_D_party_21 : decode prog_1_method_48_code 21 = .ok (.getfield 12, 3) := by decide +kernel
theorem d_D_party_24 : decode prog_1_method_48_code 24 = .ok (.getfield 112, 3) := by decide +kernel
theorem d_D_party_27 : decode prog_1_method_48_code 27 = .ok (.if_icmp .ge 40, 3) := by decide +kernel
theorem d_D_party_30 : decode prog_1_method_48_code 30 = .ok (.aload_n 0, 1) := by decide +kernel
theorem d_D_party_31 : decode prog_1_method_48_code 31 = .ok (.iload 4, 2) := by decide +kernel
theorem d_D_party_33 : decode prog_1_method_48_code 33 = .ok (.invokevirtual 379, 3) := by decide +kernel
theorem d_D_party_36 : decode prog_1_method_48_code 36 = .ok (.istore 5, 2) := by decide +kernel
theorem d_D_party_38 : decode prog_1_method_48_code 38 = .ok (.iload 5, 2) := by decide +kernel
theorem d_D_party_40 : decode prog_1_method_48_code 40 = .ok (.iconst (-1), 1) := by decide +kernel
theorem d_D_party_41 : decode prog_1_method_48_code 41 = .ok (.if_icmp .eq 20, 3) := by decide +kernel
theorem d_D_party_44 : decode prog_1_method_48_code 44 = .ok (.iload_n 2, 1) := by decide +kernel
theorem d_D_party_45 : decode prog_1_method_48_code 45 = .ok (.iconst (-1), 1) := by decide +kernel
theorem d_D_party_46 : decode prog_1_method_48_code 46 = .ok (.if_icmp .eq 9, 3) := by decide +kernel
theorem d_D_party_49 : decode prog_1_method_48_code 49 = .ok (.iload 5, 2) := by decide +kernel
theorem d_D_party_51 : decode prog_1_method_48_code 51 = .ok (.iload_n 3, 1) := by decide +kernel
theorem d_D_party_52 : decode prog_1_method_48_code 52 = .ok (.if_icmp .ge 9, 3) := by decide +kernel
theorem d_D_party_55 : decode prog_1_method_48_code 55 = .ok (.iload 4, 2) := by decide +kernel
theorem d_D_party_57 : decode prog_1_method_48_code 57 = .ok (.istore_n 2, 1) := by decide +kernel
theorem d_D_party_58 : decode prog_1_method_48_code 58 = .ok (.iload 5, 2) := by decide +kernel
theorem d_D_party_60 : decode prog_1_method_48_code 60 = .ok (.istore_n 3, 1) := by decide +kernel
theorem d_D_party_61 : decode prog_1_method_48_code 61 = .ok (.iinc 4 1, 3) := by decide +kernel
theorem d_D_party_64 : decode prog_1_method_48_code 64 = .ok (.goto (-46), 3) := by decide +kernel
theorem d_D_party_67 : decode prog_1_method_48_code 67 = .ok (.iload_n 1, 1) := by decide +kernel
theorem d_D_party_68 : decode prog_1_method_48_code 68 = .ok (.ifCond .ne 7, 3) := by decide +kernel
theorem d_D_party_71 : decode prog_1_method_48_code 71 = .ok (.iload_n 2, 1) := by decide +kernel
theorem d_D_party_72 : decode prog_1_method_48_code 72 = .ok (.goto 4, 3) := by decide +kernel
theorem d_D_party_75 : decode prog_1_method_48_code 75 = .ok (.iload_n 3, 1) := by decide +kernel
theorem d_D_party_76 : decode prog_1_method_48_code 76 = .ok (.ireturn, 1) := by decide +kernel
def w_D_party {d : Nat} (hd : 2 ≤ d) := (show SS ("DebtDoors", prog_1_method_48_code, 6) (some .int) d 0 0 0 0 _ from (sS (p1 := 11) (sIf (pn := 11) (tt := 9) (xC (rNot (rJ1 (tgt := 11) k_ne (rS p_D_between (Nat.le_trans (Nat.le_of_ble_eq_true rfl) hd) ls_D_104 (rAi (rAi (rAi rA0 (rIn 1 d_D_party_0 rfl)) (rI d_D_party_1 rfl)) (rI d_D_party_2 rfl)) (by decide) d_D_party_3) d_D_party_6 (by decide)))) (sRi (xE (rI d_D_party_9 rfl)) d_D_party_10 rfl)) (sS (p1 := 13) (sIn 2 (xE (rI d_D_party_11 rfl)) d_D_party_12 rfl (by decide)) (sS (p1 := 15) (sIn 3 (xE (rI d_D_party_13 rfl)) d_D_party_14 rfl (by decide)) (sS (p1 := 67) (sS (p1 := 18) (sI (xE (rI d_D_party_15 rfl)) d_D_party_16 (by decide)) (sLp (ps := 61) (tt := 30) (pn := 67) (p1 := 0) (p2 := 0) (xC (rNot (rJ2 (tgt := 67) j_ge (rIl d_D_party_18) (rF 6 fl_D_112 nk_9_6 (rFr fl_D_12 nk_11_0 (rAn 0 d_D_party_20 rfl) d_D_party_21) d_D_party_24 rfl) d_D_party_27 (by decide)))) (sS (p1 := 38) (sI (xV lv_D_379 (xA (rAi (rAr rA0 (rAn 0 d_D_party_30 rfl)) (rIl d_D_party_31))) (by decide) d_D_party_33) d_D_party_36 (by decide)) (sIf (pn := 61) (tt := 55) (xC (rAnd (mm := 44) (rNot (rJ2 (tgt := 61) j_eq (rIl d_D_party_38) (rI d_D_party_40 rfl) d_D_party_41 (by decide))) (rOr (mm := 49) (rJ2 (tgt := 55) j_eq (rIn 2 d_D_party_44 rfl) (rI d_D_party_45 rfl) d_D_party_46 (by decide)) (rNot (rJ2 (tgt := 61) j_ge (rIl d_D_party_49) (rIn 3 d_D_party_51 rfl) d_D_party_52 (by decide)))))) (sS (p1 := 58) (sIn 2 (xE (rIl d_D_party_55)) d_D_party_57 rfl (by decide)) (sIn 3 (xE (rIl d_D_party_58)) d_D_party_60 rfl (by decide))))) (sGo (pn := 18) (sInc d_D_party_61 (by decide)) d_D_party_64 (by decide)))) (sRi (xE (rT2 (rNot (rJ1 (tgt := 75) k_ne (rIn 1 d_D_party_67 rfl) d_D_party_68 (by decide))) (rGoE (p2 := 76) (rIn 2 d_D_party_71 rfl) d_D_party_72 (by decide)) (rIn 3 d_D_party_75 rfl))) d_D_party_76 rfl))))))
theorem kc_M_445 : Cond.constant "DebtDoorsModel" 445 (Int32.ofInt 1000000000) ∈ zTb := (zTb_in 1976 (by decide +kernel) (by decide +kernel))
def y_M_party : zMt := (⟨"DebtDoorsModel", "party", "(I)I"⟩, prog_14_method_119_code, 8, some .int)
theorem d_M_party_0 : decode prog_14_method_119_code 0 = .ok (.iload_n 1, 1) := by decide +kernel
theorem d_M_party_1 : decode prog_14_method_119_code 1 = .ok (.iconst 0, 1) := by decide +kernel
theorem d_M_party_2 : decode prog_14_method_119_code 2 = .ok (.iconst 1, 1) := by decide +kernel
theorem d_M_party_3 : decode prog_14_method_119_code 3 = .ok (.invokestatic 123, 3) := by decide +kernel
theorem d_M_party_6 : decode prog_14_method_119_code 6 = .ok (.ifCond .ne 5, 3) := by decide +kernel
theorem d_M_party_9 : decode prog_14_method_119_code 9 = .ok (.iconst (-1), 1) := by decide +kernel
theorem d_M_party_10 : decode prog_14_method_119_code 10 = .ok (.ireturn, 1) := by decide +kernel
theorem d_M_party_11 : decode prog_14_method_119_code 11 = .ok (.iconst (-1), 1) := by decide +kernel
theorem d_M_party_12 : decode prog_14_method_119_code 12 = .ok (.istore_n 2, 1) := by decide +kernel
theorem d_M_party_13 : decode prog_14_method_119_code 13 = .ok (.ldc_w 445, 3) := by decide +kernel
theorem d_M_party_16 : decode prog_14_method_119_code 16 = .ok (.istore_n 3, 1) := by decide +kernel
theorem d_M_party_17 : decode prog_14_method_119_code 17 = .ok (.iconst 0, 1) := by decide +kernel
theorem d_M_party_18 : decode prog_14_method_119_code 18 = .ok (.istore 4, 2) := by decide +kernel
theorem d_M_party_20 : decode prog_14_method_119_code 20 = .ok (.iload 4, 2) := by decide +kernel
theorem d_M_party_22 : decode prog_14_method_119_code 22 = .ok (.aload_n 0, 1) := by decide +kernel
theorem d_M_party_23 : decode prog_14_method_119_code 23 = .ok (.invokevirtual 133, 3) := by decide +kernel
theorem d_M_party_26 : decode prog_14_method_119_code 26 = .ok (.if_icmp .ge 93, 3) := by decide +kernel
theorem d_M_party_29 : decode prog_14_method_119_code 29 = .ok (.iconst 0, 1) := by decide +kernel
theorem d_M_party_30 : decode prog_14_method_119_code 30 = .ok (.istore 5, 2) := by decide +kernel
theorem d_M_party_32 : decode prog_14_method_119_code 32 = .ok (.iconst 0, 1) := by decide +kernel
theorem d_M_party_33 : decode prog_14_method_119_code 33 = .ok (.istore 6, 2) := by decide +kernel
theorem d_M_party_35 : decode prog_14_method_119_code 35 = .ok (.iload 6, 2) := by decide +kernel
theorem d_M_party_37 : decode prog_14_method_119_code 37 = .ok (.aload_n 0, 1) := by decide +kernel
theorem d_M_party_38 : decode prog_14_method_119_code 38 = .ok (.invokevirtual 133, 3) := by decide +kernel
theorem d_M_party_41 : decode prog_14_method_119_code 41 = .ok (.if_icmp .ge 57, 3) := by decide +kernel
theorem d_M_party_44 : decode prog_14_method_119_code 44 = .ok (.iload 5, 2) := by decide +kernel
theorem d_M_party_46 : decode prog_14_method_119_code 46 = .ok (.ldc_w 445, 3) := by decide +kernel
theorem d_M_party_49 : decode prog_14_method_119_code 49 = .ok (.if_icmp .ge 49, 3) := by decide +kernel
theorem d_M_party_52 : decode prog_14_method_119_code 52 = .ok (.iload 6, 2) := by decide +kernel
theorem d_M_party_54 : decode prog_14_method_119_code 54 = .ok (.iload 4, 2) := by decide +kernel
theorem d_M_party_56 : decode prog_14_method_119_code 56 = .ok (.if_icmp .ne 6, 3) := by decide +kernel
theorem d_M_party_59 : decode prog_14_method_119_code 59 = .ok (.goto 33, 3) := by decide +kernel
theorem d_M_party_62 : decode prog_14_method_119_code 62 = .ok (.aload_n 0, 1) := by decide +kernel
theorem d_M_party_63 : decode prog_14_method_119_code 63 = .ok (.iload 6, 2) := by decide +kernel
theorem d_M_party_65 : decode prog_14_method_119_code 65 = .ok (.iload 4, 2) := by decide +kernel
theorem d_M_party_67 : decode prog_14_method_119_code 67 = .ok (.iconst 1, 1) := by decide +kernel
theorem d_M_party_68 : decode prog_14_method_119_code 68 = .ok (.invokevirtual 390, 3) := by decide +kernel
theorem d_M_party_71 : decode prog_14_method_119_code 71 = .ok (.istore 7, 2) := by decide +kernel
theorem d_M_party_73 : decode prog_14_method_119_code 73 = .ok (.iload 7, 2) := by decide +kernel
theorem d_M_party_75 : decode prog_14_method_119_code 75 = .ok (.iconst (-1), 1) := by decide +kernel
theorem d_M_party_76 : decode prog_14_method_119_code 76 = .ok (.if_icmp .ne 9, 3) := by decide +kernel
theorem d_M_party_79 : decode prog_14_method_119_code 79 = .ok (.ldc_w 445, 3) := by decide +kernel
theorem d_M_party_82 : decode prog_14_method_119_code 82 = .ok (.goto 8, 3) := by decide +kernel
theorem d_M_party_85 : decode prog_14_method_119_code 85 = .ok (.iload 5, 2) := by decide +kernel
theorem d_M_party_87 : decode prog_14_method_119_code 87 = .ok (.iload 7, 2) := by decide +kernel
theorem d_M_party_89 : decode prog_14_method_119_code 89 = .ok (.iadd, 1) := by decide +kernel
theorem d_M_party_90 : decode prog_14_method_119_code 90 = .ok (.istore 5, 2) := by decide +kernel
theorem d_M_party_92 : decode prog_14_method_119_code 92 = .ok (.iinc 6 1, 3) := by decide +kernel
theorem d_M_party_95 : decode prog_14_method_119_code 95 = .ok (.goto (-60), 3) := by decide +kernel
theorem d_M_party_98 : decode prog_14_method_119_code 98 = .ok (.iload 5, 2) := by decide +kernel
theorem d_M_party_100 : decode prog_14_method_119_code 100 = .ok (.iload_n 3, 1) := by decide +kernel
theorem d_M_party_101 : decode prog_14_method_119_code 101 = .ok (.if_icmp .lt 6, 3) := by decide +kernel
theorem d_M_party_104 : decode prog_14_method_119_code 104 = .ok (.goto 9, 3) := by decide +kernel
theorem d_M_party_107 : decode prog_14_method_119_code 107 = .ok (.iload 5, 2) := by decide +kernel
theorem d_M_party_109 : decode prog_14_method_119_code 109 = .ok (.istore_n 3, 1) := by decide +kernel
theorem d_M_party_110 : decode prog_14_method_119_code 110 = .ok (.iload 4, 2) := by decide +kernel
theorem d_M_party_112 : decode prog_14_method_119_code 112 = .ok (.istore_n 2, 1) := by decide +kernel
theorem d_M_party_113 : decode prog_14_method_119_code 113 = .ok (.iinc 4 1, 3) := by decide +kernel
theorem d_M_party_116 : decode prog_14_method_119_code 116 = .ok (.goto (-96), 3) := by decide +kernel
theorem d_M_party_119 : decode prog_14_method_119_code 119 = .ok (.iload_n 2, 1) := by decide +kernel
theorem d_M_party_120 : decode prog_14_method_119_code 120 = .ok (.iconst (-1), 1) := by decide +kernel
theorem d_M_party_121 : decode prog_14_method_119_code 121 = .ok (.if_icmp .ne 7, 3) := by decide +kernel
theorem d_M_party_124 : decode prog_14_method_119_code 124 = .ok (.iconst (-1), 1) := by decide +kernel
theorem d_M_party_125 : decode prog_14_method_119_code 125 = .ok (.goto 12, 3) := by decide +kernel
theorem d_M_party_128 : decode prog_14_method_119_code 128 = .ok (.iload_n 1, 1) := by decide +kernel
theorem d_M_party_129 : decode prog_14_method_119_code 129 = .ok (.ifCond .ne 7, 3) := by decide +kernel
theorem d_M_party_132 : decode prog_14_method_119_code 132 = .ok (.iload_n 2, 1) := by decide +kernel
theorem d_M_party_133 : decode prog_14_method_119_code 133 = .ok (.goto 4, 3) := by decide +kernel
theorem d_M_party_136 : decode prog_14_method_119_code 136 = .ok (.iload_n 3, 1) := by decide +kernel
theorem d_M_party_137 : decode prog_14_method_119_code 137 = .ok (.ireturn, 1) := by decide +kernel
def w_M_party {d : Nat} (hd : 2 ≤ d) := (show SS ("DebtDoorsModel", prog_14_method_119_code, 8) (some .int) d 0 0 0 0 _ from (sS (p1 := 11) (sIf (pn := 11) (tt := 9) (xC (rNot (rJ1 (tgt := 11) k_ne (rS p_M_lies (Nat.le_trans (Nat.le_of_ble_eq_true rfl) hd) ls_M_123 (rAi (rAi (rAi rA0 (rIn 1 d_M_party_0 rfl)) (rI d_M_party_1 rfl)) (rI d_M_party_2 rfl)) (by decide) d_M_party_3) d_M_party_6 (by decide)))) (sRi (xE (rI d_M_party_9 rfl)) d_M_party_10 rfl)) (sS (p1 := 13) (sIn 2 (xE (rI d_M_party_11 rfl)) d_M_party_12 rfl (by decide)) (sS (p1 := 17) (sIn 3 (xE (rLw kc_M_445 d_M_party_13 rfl)) d_M_party_16 rfl (by decide)) (sS (p1 := 119) (sS (p1 := 20) (sI (xE (rI d_M_party_17 rfl)) d_M_party_18 (by decide)) (sLp (ps := 113) (tt := 29) (pn := 119) (p1 := 0) (p2 := 0) (xC (rNot (rJ2 (tgt := 119) j_ge (rIl d_M_party_20) (rV p_M_people (Nat.le_trans (Nat.le_of_ble_eq_true rfl) hd) lv_M_133 (rAr rA0 (rAn 0 d_M_party_22 rfl)) (by decide) d_M_party_23) d_M_party_26 (by decide)))) (sS (p1 := 32) (sI (xE (rI d_M_party_29 rfl)) d_M_party_30 (by decide)) (sS (p1 := 98) (sS (p1 := 35) (sI (xE (rI d_M_party_32 rfl)) d_M_party_33 (by decide)) (sLp (ps := 92) (tt := 52) (pn := 98) (p1 := 0) (p2 := 0) (xC (rAnd (mm := 44) (rNot (rJ2 (tgt := 98) j_ge (rIl d_M_party_35) (rV p_M_people (Nat.le_trans (Nat.le_of_ble_eq_true rfl) hd) lv_M_133 (rAr rA0 (rAn 0 d_M_party_37 rfl)) (by decide) d_M_party_38) d_M_party_41 (by decide))) (rNot (rJ2 (tgt := 98) j_ge (rIl d_M_party_44) (rLw kc_M_445 d_M_party_46 rfl) d_M_party_49 (by decide))))) (sS (p1 := 62) (sIf (pn := 62) (tt := 92) (xC (rGt (p2 := 92) (rNot (rJ2 (tgt := 62) j_ne (rIl d_M_party_52) (rIl d_M_party_54) d_M_party_56 (by decide))) d_M_party_59 (by decide))) sCo0) (sS (p1 := 73) (sI (xV lv_M_390 (xA (rAi (rAi (rAi (rAr rA0 (rAn 0 d_M_party_62 rfl)) (rIl d_M_party_63)) (rIl d_M_party_65)) (rI d_M_party_67 rfl))) (by decide) d_M_party_68) d_M_party_71 (by decide)) (sI (xE (rT2 (rNot (rJ2 (tgt := 85) j_ne (rIl d_M_party_73) (rI d_M_party_75 rfl) d_M_party_76 (by decide))) (rGoE (p2 := 90) (rLw kc_M_445 d_M_party_79 rfl) d_M_party_82 (by decide)) (r2 o_add (rIl d_M_party_85) (rIl d_M_party_87) d_M_party_89))) d_M_party_90 (by decide)))) (sGo (pn := 35) (sInc d_M_party_92 (by decide)) d_M_party_95 (by decide)))) (sS (p1 := 107) (sIf (pn := 107) (tt := 113) (xC (rGt (p2 := 113) (rNot (rJ2 (tgt := 107) j_lt (rIl d_M_party_98) (rIn 3 d_M_party_100 rfl) d_M_party_101 (by decide))) d_M_party_104 (by decide))) sCo0) (sS (p1 := 110) (sIn 3 (xE (rIl d_M_party_107)) d_M_party_109 rfl (by decide)) (sIn 2 (xE (rIl d_M_party_110)) d_M_party_112 rfl (by decide)))))) (sGo (pn := 20) (sInc d_M_party_113 (by decide)) d_M_party_116 (by decide)))) (sRi (xE (rT2 (rNot (rJ2 (tgt := 128) j_ne (rIn 2 d_M_party_119 rfl) (rI d_M_party_120 rfl) d_M_party_121 (by decide))) (rGoE (p2 := 137) (rI d_M_party_124 rfl) d_M_party_125 (by decide)) (rT2 (rNot (rJ1 (tgt := 136) k_ne (rIn 1 d_M_party_128 rfl) d_M_party_129 (by decide))) (rGoE (p2 := 137) (rIn 2 d_M_party_132 rfl) d_M_party_133 (by decide)) (rIn 3 d_M_party_136 rfl)))) d_M_party_137 rfl))))))
theorem LC_ban {p : Int} : LC y_D_ban y_M_ban [vi p] := LC.tl (f := fun Z F A w => zit (0 ≤ p ∧ p < Z.1) (bnA Z F A w p) (-1)) (fun μ Z F A w hc => by
    have hn := hc.1.1
    have e6 := hc.2.2.1.1
    have hw := hc.2.2.2.2.2
    refine zCw.use (zSp.ss [vr 0, vi p, vx 0, vx 0, vx 0] rfl (w_D_ban (d := 100) (by decide)) rfl rfl ?_) (by decide) (fun q μ' e => e)
    (try simp only [zit_e, Bool.and_eq_true, Bool.or_eq_true, Bool.not_eq_true', Bool.and_eq_false_iff, Bool.or_eq_false_iff, Bool.not_eq_false', zbe, zdt, zdf, zb2_p, zbp_0, zbp_1, zbp_inj, zbp_01, Bool.true_eq_false, Bool.false_eq_true, true_and, and_true, Decidable.not_not, Classical.not_not, implies_true, List.nil_append, List.cons_append, List.append_assoc, Option.some.injEq, Sum.inl.injEq, zSw_c, zSw_n]); (try simp only [zit_e, Bool.and_eq_true, Bool.or_eq_true, Bool.not_eq_true', Bool.and_eq_false_iff, Bool.or_eq_false_iff, Bool.not_eq_false', zbe, zdt, zdf, zb2_p, zbp_0, zbp_1, zbp_inj, zbp_01, Bool.true_eq_false, Bool.false_eq_true, true_and, and_true, Decidable.not_not, Classical.not_not, implies_true, List.nil_append, List.cons_append, List.append_assoc, Option.some.injEq, Sum.inl.injEq, zSw_c, zSw_n, zc_0, zc_1, zc_324, f_To_has, g_To_has]); (try simp only [zi_cs, zi_c0, zii_cs, zii_c0, zl_cs, zl_c0, zll_cs, zll_c0, zr_cs, zr_c0, zrr_cs, zrr_c0, zxs_cs, zxs_c0, zxx_cs, zxx_c0, zfree_c0, zfree_c1, zfree_cs, zfree_cz, zlong_i, zlong_r, zlong_x, zset_0, zset_s, true_and, and_true, Option.some.injEq, Sum.inl.injEq, Sum.inr.injEq, zb2_p, zbp_0, zbp_1, zbp_inj, zbp_01, Nat.zero_add, Nat.reduceAdd, implies_true, List.nil_append, List.cons_append, List.append_assoc, Int.not_lt, Int.not_le, Decidable.not_not, Int.zero_add, Int.reduceLE, Int.reduceLT, Int.reduceEq, Int.reduceNe, Int.reduceAdd, Int.reduceSub, Int.reduceMul, Int.reduceNeg, Int.reduceToNat, Nat.reduceMul, Nat.reduceLT, Nat.reduceEqDiff, and_self, ite_true, ite_false, zx1, zx2, zRecv, List.length_cons, List.length_nil, ne_eq, not_true_eq_false, not_false_eq_true, true_or, or_true, or_false, false_or, and_false, false_and, zf01, zf10, reduceCtorEq, zSw_c, zSw_n, zm_r, zit_T, zit_F, false_implies, true_implies, zc_0, zc_1, zc_324, f_To_has, g_To_has])
    rw [e6]
    refine zif (fun c => ⟨(zit_f (by omega)).symm, HM.rf, KC.rf⟩) (fun c => ?_)
    rw [zit_t (by omega)]
    unfold bnA
    have hb : ∀ x, -1 ≤ (fun h => shA Z F A w h p 1) x ∧ (fun h => shA Z F A w h p 1) x ≤ 160000 := fun x => shA_in hc.2.1
    refine zLoop.up Z.1.toNat (fun j ρ μ1 => ∃ (s : Int) (x5 : zV), ρ = [vr 0, vi p, vi s, vi j, x5] ∧ CF w μ μ1 ∧ (0 ≤ s ∧ s ≤ 160000 * j) ∧ smN (fun h => shA Z F A w h p 1) p Z.1.toNat 0 0 = smN (fun h => shA Z F A w h p 1) p (Z.1.toNat - j) s j) ⟨0, vx 0, rfl, CF.rf hw, by decide, rfl⟩ ?_
    rintro j ρ μ1 hj ⟨s, x5, rfl, hF, hs, hf⟩
    have h1 := hc.f hF
    have e6 := h1.2.2.1.1
    (try simp only [zit_e, Bool.and_eq_true, Bool.or_eq_true, Bool.not_eq_true', Bool.and_eq_false_iff, Bool.or_eq_false_iff, Bool.not_eq_false', zbe, zdt, zdf, zb2_p, zbp_0, zbp_1, zbp_inj, zbp_01, Bool.true_eq_false, Bool.false_eq_true, true_and, and_true, Decidable.not_not, Classical.not_not, implies_true, List.nil_append, List.cons_append, List.append_assoc, Option.some.injEq, Sum.inl.injEq, zSw_c, zSw_n]); (try simp only [zit_e, Bool.and_eq_true, Bool.or_eq_true, Bool.not_eq_true', Bool.and_eq_false_iff, Bool.or_eq_false_iff, Bool.not_eq_false', zbe, zdt, zdf, zb2_p, zbp_0, zbp_1, zbp_inj, zbp_01, Bool.true_eq_false, Bool.false_eq_true, true_and, and_true, Decidable.not_not, Classical.not_not, implies_true, List.nil_append, List.cons_append, List.append_assoc, Option.some.injEq, Sum.inl.injEq, zSw_c, zSw_n, zc_0, zc_1, zc_324]); (try simp only [zi_cs, zi_c0, zii_cs, zii_c0, zl_cs, zl_c0, zll_cs, zll_c0, zr_cs, zr_c0, zrr_cs, zrr_c0, zxs_cs, zxs_c0, zxx_cs, zxx_c0, zfree_c0, zfree_c1, zfree_cs, zfree_cz, zlong_i, zlong_r, zlong_x, zset_0, zset_s, true_and, and_true, Option.some.injEq, Sum.inl.injEq, Sum.inr.injEq, zb2_p, zbp_0, zbp_1, zbp_inj, zbp_01, Nat.zero_add, Nat.reduceAdd, implies_true, List.nil_append, List.cons_append, List.append_assoc, Int.not_lt, Int.not_le, Decidable.not_not, Int.zero_add, Int.reduceLE, Int.reduceLT, Int.reduceEq, Int.reduceNe, Int.reduceAdd, Int.reduceSub, Int.reduceMul, Int.reduceNeg, Int.reduceToNat, Nat.reduceMul, Nat.reduceLT, Nat.reduceEqDiff, and_self, ite_true, ite_false, zx1, zx2, zRecv, List.length_cons, List.length_nil, ne_eq, not_true_eq_false, not_false_eq_true, true_or, or_true, or_false, false_or, and_false, false_and, zf01, zf10, reduceCtorEq, zSw_c, zSw_n, zm_r, zit_T, zit_F, false_implies, true_implies, zc_0, zc_1, zc_324])
    rw [e6]
    refine zif (fun c0 => ?_) (fun c0 => ?_)
    · rw [smN_s (by omega)] at hf
      have nx : ∀ {s2 : Int} {y5 : zV} {μ2 : zMem}, CF w μ μ2 → (0 ≤ s2 ∧ s2 ≤ 160000 * ((j + 1 : Nat) : Int)) → smN (fun h => shA Z F A w h p 1) p Z.1.toNat 0 0 = smN (fun h => shA Z F A w h p 1) p (Z.1.toNat - (j + 1)) s2 ((j + 1 : Nat) : Int) → zI ((j : Int) + 1) ∧ ∃ m', m' < Z.1.toNat - j ∧ ∃ j', m' = Z.1.toNat - j' ∧ j' ≤ Z.1.toNat ∧ ∃ (s : Int) (x5 : zV), [vr 0, vi p, vi s2, vi ((j : Int) + 1), y5] = [vr 0, vi p, vi s, vi j', x5] ∧ CF w μ μ2 ∧ (0 ≤ s ∧ s ≤ 160000 * j') ∧ smN (fun h => shA Z F A w h p 1) p Z.1.toNat 0 0 = smN (fun h => shA Z F A w h p 1) p (Z.1.toNat - j') s j' := by
        intro s2 y5 μ2 q1 q2 q3
        exact ⟨zI_s (by omega) (by omega), Z.1.toNat - (j + 1), by omega, j + 1, rfl, by omega, s2, y5, rfl, q1, q2, q3⟩
      refine zif (fun c1 => ?_) (fun c1 => ?_)
      · rw [zit_t c1] at hf
        exact nx hF (by omega) hf
      · rw [zit_f c1] at hf
        refine zCw.use (q_Ru_shutBy (d := 7) (by decide) h1 (by omega) (by omega)) (by omega) (fun q μ2 e => ?_)
        obtain ⟨rfl, e2⟩ := e
        have hb1 := hb j
        simp only at hb1 hf
        refine ⟨_, rfl, ?_⟩
        refine zif (fun c2 => ?_) (fun c2 => ?_)
        · rw [zit_t c2] at hf
          exact ⟨hf.symm, (hF.tr e2).hm, (hF.tr e2).kc⟩
        · rw [zit_f c2] at hf
          exact ⟨zI_s (by omega) (by omega), nx (hF.tr e2) (by omega) hf⟩
    · have e : j = Z.1.toNat := by omega
      subst e
      rw [Nat.sub_self] at hf
      exact ⟨hf.symm, hF.hm, hF.kc⟩) (fun μ Z F A w hc => by
    have hn := hc.1.1
    have e6 := hc.2.2.1.1
    refine zCw.use (zSp.ss [vr 355, vi p, vx 0, vx 0, vx 0] rfl (w_M_ban (d := 100) (by decide)) rfl rfl ?_) (by decide) (fun q μ' e => e)
    (try simp only [zit_e, Bool.and_eq_true, Bool.or_eq_true, Bool.not_eq_true', Bool.and_eq_false_iff, Bool.or_eq_false_iff, Bool.not_eq_false', zbe, zdt, zdf, zb2_p, zbp_0, zbp_1, zbp_inj, zbp_01, Bool.true_eq_false, Bool.false_eq_true, true_and, and_true, Decidable.not_not, Classical.not_not, implies_true, List.nil_append, List.cons_append, List.append_assoc, Option.some.injEq, Sum.inl.injEq, zSw_c, zSw_n]); (try simp only [zit_e, Bool.and_eq_true, Bool.or_eq_true, Bool.not_eq_true', Bool.and_eq_false_iff, Bool.or_eq_false_iff, Bool.not_eq_false', zbe, zdt, zdf, zb2_p, zbp_0, zbp_1, zbp_inj, zbp_01, Bool.true_eq_false, Bool.false_eq_true, true_and, and_true, Decidable.not_not, Classical.not_not, implies_true, List.nil_append, List.cons_append, List.append_assoc, Option.some.injEq, Sum.inl.injEq, zSw_c, zSw_n, zc_355, f_M_isPerson, g_M_isPerson]); (try simp only [zi_cs, zi_c0, zii_cs, zii_c0, zl_cs, zl_c0, zll_cs, zll_c0, zr_cs, zr_c0, zrr_cs, zrr_c0, zxs_cs, zxs_c0, zxx_cs, zxx_c0, zfree_c0, zfree_c1, zfree_cs, zfree_cz, zlong_i, zlong_r, zlong_x, zset_0, zset_s, true_and, and_true, Option.some.injEq, Sum.inl.injEq, Sum.inr.injEq, zb2_p, zbp_0, zbp_1, zbp_inj, zbp_01, Nat.zero_add, Nat.reduceAdd, implies_true, List.nil_append, List.cons_append, List.append_assoc, Int.not_lt, Int.not_le, Decidable.not_not, Int.zero_add, Int.reduceLE, Int.reduceLT, Int.reduceEq, Int.reduceNe, Int.reduceAdd, Int.reduceSub, Int.reduceMul, Int.reduceNeg, Int.reduceToNat, Nat.reduceMul, Nat.reduceLT, Nat.reduceEqDiff, and_self, ite_true, ite_false, zx1, zx2, zRecv, List.length_cons, List.length_nil, ne_eq, not_true_eq_false, not_false_eq_true, true_or, or_true, or_false, false_or, and_false, false_and, zf01, zf10, reduceCtorEq, zSw_c, zSw_n, zm_r, zit_T, zit_F, false_implies, true_implies, zc_355, f_M_isPerson, g_M_isPerson])
    rw [e6]
    refine ⟨by omega, ?_⟩
    refine zif (fun c => ⟨(zit_f (by omega)).symm, HC.rf, KM.rf⟩) (fun c => ?_)
    rw [zit_t (by omega)]
    unfold bnA
    have hb : ∀ x, -1 ≤ (fun h => shA Z F A w h p 1) x ∧ (fun h => shA Z F A w h p 1) x ≤ 160000 := fun x => shA_in hc.2.1
    refine zLoop.up Z.1.toNat (fun j ρ μ1 => ∃ (s : Int) (x5 : zV), ρ = [vr 355, vi p, vi s, vi j, x5] ∧ MF μ μ1 ∧ (0 ≤ s ∧ s ≤ 160000 * j) ∧ smN (fun h => shA Z F A w h p 1) p Z.1.toNat 0 0 = smN (fun h => shA Z F A w h p 1) p (Z.1.toNat - j) s j) ⟨0, vx 0, rfl, MF.rf, by decide, rfl⟩ ?_
    rintro j ρ μ1 hj ⟨s, x5, rfl, hF, hs, hf⟩
    have h1 := hc.f hF
    have e6 := h1.2.2.1.1
    (try simp only [zit_e, Bool.and_eq_true, Bool.or_eq_true, Bool.not_eq_true', Bool.and_eq_false_iff, Bool.or_eq_false_iff, Bool.not_eq_false', zbe, zdt, zdf, zb2_p, zbp_0, zbp_1, zbp_inj, zbp_01, Bool.true_eq_false, Bool.false_eq_true, true_and, and_true, Decidable.not_not, Classical.not_not, implies_true, List.nil_append, List.cons_append, List.append_assoc, Option.some.injEq, Sum.inl.injEq, zSw_c, zSw_n]); (try simp only [zit_e, Bool.and_eq_true, Bool.or_eq_true, Bool.not_eq_true', Bool.and_eq_false_iff, Bool.or_eq_false_iff, Bool.not_eq_false', zbe, zdt, zdf, zb2_p, zbp_0, zbp_1, zbp_inj, zbp_01, Bool.true_eq_false, Bool.false_eq_true, true_and, and_true, Decidable.not_not, Classical.not_not, implies_true, List.nil_append, List.cons_append, List.append_assoc, Option.some.injEq, Sum.inl.injEq, zSw_c, zSw_n, zc_355, f_M_people, g_M_people]); (try simp only [zi_cs, zi_c0, zii_cs, zii_c0, zl_cs, zl_c0, zll_cs, zll_c0, zr_cs, zr_c0, zrr_cs, zrr_c0, zxs_cs, zxs_c0, zxx_cs, zxx_c0, zfree_c0, zfree_c1, zfree_cs, zfree_cz, zlong_i, zlong_r, zlong_x, zset_0, zset_s, true_and, and_true, Option.some.injEq, Sum.inl.injEq, Sum.inr.injEq, zb2_p, zbp_0, zbp_1, zbp_inj, zbp_01, Nat.zero_add, Nat.reduceAdd, implies_true, List.nil_append, List.cons_append, List.append_assoc, Int.not_lt, Int.not_le, Decidable.not_not, Int.zero_add, Int.reduceLE, Int.reduceLT, Int.reduceEq, Int.reduceNe, Int.reduceAdd, Int.reduceSub, Int.reduceMul, Int.reduceNeg, Int.reduceToNat, Nat.reduceMul, Nat.reduceLT, Nat.reduceEqDiff, and_self, ite_true, ite_false, zx1, zx2, zRecv, List.length_cons, List.length_nil, ne_eq, not_true_eq_false, not_false_eq_true, true_or, or_true, or_false, false_or, and_false, false_and, zf01, zf10, reduceCtorEq, zSw_c, zSw_n, zm_r, zit_T, zit_F, false_implies, true_implies, zc_355, f_M_people, g_M_people])
    rw [e6]
    refine zif (fun c0 => ?_) (fun c0 => ?_)
    · rw [smN_s (by omega)] at hf
      have nx : ∀ {s2 : Int} {y5 : zV} {μ2 : zMem}, MF μ μ2 → (0 ≤ s2 ∧ s2 ≤ 160000 * ((j + 1 : Nat) : Int)) → smN (fun h => shA Z F A w h p 1) p Z.1.toNat 0 0 = smN (fun h => shA Z F A w h p 1) p (Z.1.toNat - (j + 1)) s2 ((j + 1 : Nat) : Int) → zI ((j : Int) + 1) ∧ ∃ m', m' < Z.1.toNat - j ∧ ∃ j', m' = Z.1.toNat - j' ∧ j' ≤ Z.1.toNat ∧ ∃ (s : Int) (x5 : zV), [vr 355, vi p, vi s2, vi ((j : Int) + 1), y5] = [vr 355, vi p, vi s, vi j', x5] ∧ MF μ μ2 ∧ (0 ≤ s ∧ s ≤ 160000 * j') ∧ smN (fun h => shA Z F A w h p 1) p Z.1.toNat 0 0 = smN (fun h => shA Z F A w h p 1) p (Z.1.toNat - j') s j' := by
        intro s2 y5 μ2 q1 q2 q3
        exact ⟨zI_s (by omega) (by omega), Z.1.toNat - (j + 1), by omega, j + 1, rfl, by omega, s2, y5, rfl, q1, q2, q3⟩
      refine zif (fun c1 => ?_) (fun c1 => ?_)
      · rw [zit_t c1] at hf
        exact nx hF (by omega) hf
      · rw [zit_f c1] at hf
        refine zCw.use (q_M_shutBy (d := 49) (by decide) h1 (by omega) (by omega)) (by omega) (fun q μ2 e => ?_)
        obtain ⟨rfl, e2⟩ := e
        have hb1 := hb j
        simp only at hb1 hf
        refine ⟨_, rfl, ?_⟩
        refine zif (fun c2 => ?_) (fun c2 => ?_)
        · rw [zit_t c2] at hf
          exact ⟨hf.symm, (hF.tr e2).hc, (hF.tr e2).km⟩
        · rw [zit_f c2] at hf
          exact ⟨zI_s (by omega) (by omega), nx (hF.tr e2) (by omega) hf⟩
    · have e : j = Z.1.toNat := by omega
      subst e
      rw [Nat.sub_self] at hf
      exact ⟨hf.symm, hF.hc, hF.km⟩)

