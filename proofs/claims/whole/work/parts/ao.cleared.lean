/-! what a ring's clearing shuts -/
theorem nk_11_13 : zNk 11 13 = none := rfl
def y_D_fillDepths : zMt := (⟨"DebtDoors", "fillDepths", "()V"⟩, prog_1_method_53_code, 3, none)
theorem d_D_fillDepths_0 : decode prog_1_method_53_code 0 = .ok (.iconst 0, 1) := by decide +kernel
theorem d_D_fillDepths_1 : decode prog_1_method_53_code 1 = .ok (.istore_n 1, 1) := by decide +kernel
theorem d_D_fillDepths_2 : decode prog_1_method_53_code 2 = .ok (.iload_n 1, 1) := by decide +kernel
theorem d_D_fillDepths_3 : decode prog_1_method_53_code 3 = .ok (.aload_n 0, 1) := by decide +kernel
theorem d_D_fillDepths_4 : decode prog_1_method_53_code 4 = .ok (.getfield 12, 3) := by decide +kernel
theorem d_D_fillDepths_7 : decode prog_1_method_53_code 7 = .ok (.getfield 112, 3) := by decide +kernel
theorem d_D_fillDepths_10 : decode prog_1_method_53_code 10 = .ok (.if_icmp .ge 57, 3) := by decide +kernel
theorem d_D_fillDepths_13 : decode prog_1_method_53_code 13 = .ok (.iconst 0, 1) := by decide +kernel
theorem d_D_fillDepths_14 : decode prog_1_method_53_code 14 = .ok (.istore_n 2, 1) := by decide +kernel
theorem d_D_fillDepths_15 : decode prog_1_method_53_code 15 = .ok (.iload_n 2, 1) := by decide +kernel
theorem d_D_fillDepths_16 : decode prog_1_method_53_code 16 = .ok (.aload_n 0, 1) := by decide +kernel
theorem d_D_fillDepths_17 : decode prog_1_method_53_code 17 = .ok (.getfield 12, 3) := by decide +kernel
theorem d_D_fillDepths_20 : decode prog_1_method_53_code 20 = .ok (.getfield 112, 3) := by decide +kernel
theorem d_D_fillDepths_23 : decode prog_1_method_53_code 23 = .ok (.if_icmp .ge 38, 3) := by decide +kernel
theorem d_D_fillDepths_26 : decode prog_1_method_53_code 26 = .ok (.iload_n 1, 1) := by decide +kernel
theorem d_D_fillDepths_27 : decode prog_1_method_53_code 27 = .ok (.iload_n 2, 1) := by decide +kernel
theorem d_D_fillDepths_28 : decode prog_1_method_53_code 28 = .ok (.if_icmp .eq 27, 3) := by decide +kernel
theorem d_D_fillDepths_31 : decode prog_1_method_53_code 31 = .ok (.aload_n 0, 1) := by decide +kernel
theorem d_D_fillDepths_32 : decode prog_1_method_53_code 32 = .ok (.getfield 90, 3) := by decide +kernel
theorem d_D_fillDepths_35 : decode prog_1_method_53_code 35 = .ok (.iload_n 1, 1) := by decide +kernel
theorem d_D_fillDepths_36 : decode prog_1_method_53_code 36 = .ok (.bipush 7, 2) := by decide +kernel
theorem d_D_fillDepths_38 : decode prog_1_method_53_code 38 = .ok (.imul, 1) := by decide +kernel
theorem d_D_fillDepths_39 : decode prog_1_method_53_code 39 = .ok (.iload_n 2, 1) := by decide +kernel
theorem d_D_fillDepths_40 : decode prog_1_method_53_code 40 = .ok (.iadd, 1) := by decide +kernel
theorem d_D_fillDepths_41 : decode prog_1_method_53_code 41 = .ok (.aload_n 0, 1) := by decide +kernel
theorem d_D_fillDepths_42 : decode prog_1_method_53_code 42 = .ok (.getfield 51, 3) := by decide +kernel
theorem d_D_fillDepths_45 : decode prog_1_method_53_code 45 = .ok (.aload_n 0, 1) := by decide +kernel
theorem d_D_fillDepths_46 : decode prog_1_method_53_code 46 = .ok (.getfield 12, 3) := by decide +kernel
theorem d_D_fillDepths_49 : decode prog_1_method_53_code 49 = .ok (.iload_n 1, 1) := by decide +kernel
theorem d_D_fillDepths_50 : decode prog_1_method_53_code 50 = .ok (.iload_n 2, 1) := by decide +kernel
theorem d_D_fillDepths_51 : decode prog_1_method_53_code 51 = .ok (.invokevirtual 289, 3) := by decide +kernel
theorem d_D_fillDepths_54 : decode prog_1_method_53_code 54 = .ok (.iastore, 1) := by decide +kernel
theorem d_D_fillDepths_55 : decode prog_1_method_53_code 55 = .ok (.iinc 2 1, 3) := by decide +kernel
theorem d_D_fillDepths_58 : decode prog_1_method_53_code 58 = .ok (.goto (-43), 3) := by decide +kernel
theorem d_D_fillDepths_61 : decode prog_1_method_53_code 61 = .ok (.iinc 1 1, 3) := by decide +kernel
theorem d_D_fillDepths_64 : decode prog_1_method_53_code 64 = .ok (.goto (-62), 3) := by decide +kernel
theorem d_D_fillDepths_67 : decode prog_1_method_53_code 67 = .ok (.return_, 1) := by decide +kernel
def w_D_fillDepths {d : Nat} (hd : 1 ≤ d) := (show SS ("DebtDoors", prog_1_method_53_code, 3) (none) d 0 0 0 0 _ from (sS (p1 := 67) (sS (p1 := 2) (sIn 1 (xE (rI d_D_fillDepths_0 rfl)) d_D_fillDepths_1 rfl (by decide)) (sLp (ps := 61) (tt := 13) (pn := 67) (p1 := 0) (p2 := 0) (xC (rNot (rJ2 (tgt := 67) j_ge (rIn 1 d_D_fillDepths_2 rfl) (rF 6 fl_D_112 nk_9_6 (rFr fl_D_12 nk_11_0 (rAn 0 d_D_fillDepths_3 rfl) d_D_fillDepths_4) d_D_fillDepths_7 rfl) d_D_fillDepths_10 (by decide)))) (sS (p1 := 15) (sIn 2 (xE (rI d_D_fillDepths_13 rfl)) d_D_fillDepths_14 rfl (by decide)) (sLp (ps := 55) (tt := 26) (pn := 61) (p1 := 0) (p2 := 0) (xC (rNot (rJ2 (tgt := 61) j_ge (rIn 2 d_D_fillDepths_15 rfl) (rF 6 fl_D_112 nk_9_6 (rFr fl_D_12 nk_11_0 (rAn 0 d_D_fillDepths_16 rfl) d_D_fillDepths_17) d_D_fillDepths_20 rfl) d_D_fillDepths_23 (by decide)))) (sIf (pn := 55) (tt := 31) (xC (rNot (rJ2 (tgt := 55) j_eq (rIn 1 d_D_fillDepths_26 rfl) (rIn 2 d_D_fillDepths_27 rfl) d_D_fillDepths_28 (by decide)))) (sAs (rFr fl_D_90 nk_11_13 (rAn 0 d_D_fillDepths_31 rfl) d_D_fillDepths_32) (r2 o_add (r2 o_mul (rIn 1 d_D_fillDepths_35 rfl) (rB d_D_fillDepths_36 rfl) d_D_fillDepths_38) (rIn 2 d_D_fillDepths_39 rfl) d_D_fillDepths_40) (xV lv_D_289 (xA (rAi (rAi (rAr (rAr rA0 (rFr fl_D_51 nk_11_7 (rAn 0 d_D_fillDepths_41 rfl) d_D_fillDepths_42)) (rFr fl_D_12 nk_11_0 (rAn 0 d_D_fillDepths_45 rfl) d_D_fillDepths_46)) (rIn 1 d_D_fillDepths_49 rfl)) (rIn 2 d_D_fillDepths_50 rfl))) (by decide) d_D_fillDepths_51) d_D_fillDepths_54)) (sGo (pn := 15) (sInc d_D_fillDepths_55 (by decide)) d_D_fillDepths_58 (by decide)))) (sGo (pn := 2) (sInc d_D_fillDepths_61 (by decide)) d_D_fillDepths_64 (by decide)))) (sRv d_D_fillDepths_67 rfl)))
theorem m_D_fillDepths : Cond.instanceMethod y_D_fillDepths.1 ∈ zTb ∧ Cond.selects y_D_fillDepths.1.cls y_D_fillDepths.1 y_D_fillDepths.1 ∈ zTb ∧ Cond.initialized y_D_fillDepths.1.cls ∈ zTb ∧ Cond.code y_D_fillDepths.1 y_D_fillDepths.2.1 y_D_fillDepths.2.2.1 y_D_fillDepths.2.2.2 ∈ zTb ∧ (y_D_fillDepths.1.cls ≠ "java/lang/invoke/MethodHandle" ∧ y_D_fillDepths.1.cls ≠ "java/lang/invoke/VarHandle" ∧ (parseMethodDescriptor y_D_fillDepths.1.desc).map (fun d => d.parameters.length) = some 0) ∧ y_D_fillDepths.2.2.1 ≤ 20 :=
  ⟨(zTb_in 1223 (by decide +kernel) (by decide +kernel)), (List.mem_filter.mpr ⟨List.mem_append_left _ (by decide +kernel), by decide +kernel⟩), (zTb_in 139 (by decide +kernel) (by decide +kernel)), (zTb_in 1224 (by decide +kernel) (by decide +kernel)), by decide +kernel, by decide +kernel⟩
theorem lv_D_388 : zLv "DebtDoors" 388 y_D_fillDepths 0 11 := ⟨⟨(zTb_in 1221 (by decide +kernel) (by decide +kernel)), m_D_fillDepths.1, m_D_fillDepths.2.1, m_D_fillDepths.2.2⟩, _, rfl, rfl⟩
theorem lv_D_221 : zLv "DebtDoors" 221 y_Le_copyFrom 1 1 := ⟨⟨(zTb_in 908 (by decide +kernel) (by decide +kernel)), m_Le_copyFrom.1, m_Le_copyFrom.2.1, m_Le_copyFrom.2.2⟩, _, rfl, rfl⟩
theorem nk_11_3 : zNk 11 3 = none := rfl
def y_D_shutByClearing : zMt := (⟨"DebtDoors", "shutByClearing", "(I)I"⟩, prog_1_method_52_code, 5, some .int)
theorem d_D_shutByClearing_0 : decode prog_1_method_52_code 0 = .ok (.aload_n 0, 1) := by decide +kernel
theorem d_D_shutByClearing_1 : decode prog_1_method_52_code 1 = .ok (.invokevirtual 388, 3) := by decide +kernel
theorem d_D_shutByClearing_4 : decode prog_1_method_52_code 4 = .ok (.aload_n 0, 1) := by decide +kernel
theorem d_D_shutByClearing_5 : decode prog_1_method_52_code 5 = .ok (.getfield 27, 3) := by decide +kernel
theorem d_D_shutByClearing_8 : decode prog_1_method_52_code 8 = .ok (.aload_n 0, 1) := by decide +kernel
theorem d_D_shutByClearing_9 : decode prog_1_method_52_code 9 = .ok (.getfield 12, 3) := by decide +kernel
theorem d_D_shutByClearing_12 : decode prog_1_method_52_code 12 = .ok (.getfield 115, 3) := by decide +kernel
theorem d_D_shutByClearing_15 : decode prog_1_method_52_code 15 = .ok (.invokevirtual 221, 3) := by decide +kernel
theorem d_D_shutByClearing_18 : decode prog_1_method_52_code 18 = .ok (.aload_n 0, 1) := by decide +kernel
theorem d_D_shutByClearing_19 : decode prog_1_method_52_code 19 = .ok (.getfield 79, 3) := by decide +kernel
theorem d_D_shutByClearing_22 : decode prog_1_method_52_code 22 = .ok (.aload_n 0, 1) := by decide +kernel
theorem d_D_shutByClearing_23 : decode prog_1_method_52_code 23 = .ok (.getfield 12, 3) := by decide +kernel
theorem d_D_shutByClearing_26 : decode prog_1_method_52_code 26 = .ok (.getfield 115, 3) := by decide +kernel
theorem d_D_shutByClearing_29 : decode prog_1_method_52_code 29 = .ok (.iload_n 1, 1) := by decide +kernel
theorem d_D_shutByClearing_30 : decode prog_1_method_52_code 30 = .ok (.invokevirtual 318, 3) := by decide +kernel
theorem d_D_shutByClearing_33 : decode prog_1_method_52_code 33 = .ok (.iconst 0, 1) := by decide +kernel
theorem d_D_shutByClearing_34 : decode prog_1_method_52_code 34 = .ok (.istore_n 2, 1) := by decide +kernel
theorem d_D_shutByClearing_35 : decode prog_1_method_52_code 35 = .ok (.iconst 0, 1) := by decide +kernel
theorem d_D_shutByClearing_36 : decode prog_1_method_52_code 36 = .ok (.istore_n 3, 1) := by decide +kernel
theorem d_D_shutByClearing_37 : decode prog_1_method_52_code 37 = .ok (.iload_n 3, 1) := by decide +kernel
theorem d_D_shutByClearing_38 : decode prog_1_method_52_code 38 = .ok (.aload_n 0, 1) := by decide +kernel
theorem d_D_shutByClearing_39 : decode prog_1_method_52_code 39 = .ok (.getfield 12, 3) := by decide +kernel
theorem d_D_shutByClearing_42 : decode prog_1_method_52_code 42 = .ok (.getfield 112, 3) := by decide +kernel
theorem d_D_shutByClearing_45 : decode prog_1_method_52_code 45 = .ok (.if_icmp .ge 68, 3) := by decide +kernel
theorem d_D_shutByClearing_48 : decode prog_1_method_52_code 48 = .ok (.iconst 0, 1) := by decide +kernel
theorem d_D_shutByClearing_49 : decode prog_1_method_52_code 49 = .ok (.istore 4, 2) := by decide +kernel
theorem d_D_shutByClearing_51 : decode prog_1_method_52_code 51 = .ok (.iload 4, 2) := by decide +kernel
theorem d_D_shutByClearing_53 : decode prog_1_method_52_code 53 = .ok (.aload_n 0, 1) := by decide +kernel
theorem d_D_shutByClearing_54 : decode prog_1_method_52_code 54 = .ok (.getfield 12, 3) := by decide +kernel
theorem d_D_shutByClearing_57 : decode prog_1_method_52_code 57 = .ok (.getfield 112, 3) := by decide +kernel
theorem d_D_shutByClearing_60 : decode prog_1_method_52_code 60 = .ok (.if_icmp .ge 47, 3) := by decide +kernel
theorem d_D_shutByClearing_63 : decode prog_1_method_52_code 63 = .ok (.iload_n 3, 1) := by decide +kernel
theorem d_D_shutByClearing_64 : decode prog_1_method_52_code 64 = .ok (.iload 4, 2) := by decide +kernel
theorem d_D_shutByClearing_66 : decode prog_1_method_52_code 66 = .ok (.if_icmp .eq 35, 3) := by decide +kernel
theorem d_D_shutByClearing_69 : decode prog_1_method_52_code 69 = .ok (.aload_n 0, 1) := by decide +kernel
theorem d_D_shutByClearing_70 : decode prog_1_method_52_code 70 = .ok (.getfield 51, 3) := by decide +kernel
theorem d_D_shutByClearing_73 : decode prog_1_method_52_code 73 = .ok (.aload_n 0, 1) := by decide +kernel
theorem d_D_shutByClearing_74 : decode prog_1_method_52_code 74 = .ok (.getfield 12, 3) := by decide +kernel
theorem d_D_shutByClearing_77 : decode prog_1_method_52_code 77 = .ok (.iload_n 3, 1) := by decide +kernel
theorem d_D_shutByClearing_78 : decode prog_1_method_52_code 78 = .ok (.iload 4, 2) := by decide +kernel
theorem d_D_shutByClearing_80 : decode prog_1_method_52_code 80 = .ok (.invokevirtual 289, 3) := by decide +kernel
theorem d_D_shutByClearing_83 : decode prog_1_method_52_code 83 = .ok (.aload_n 0, 1) := by decide +kernel
theorem d_D_shutByClearing_84 : decode prog_1_method_52_code 84 = .ok (.getfield 90, 3) := by decide +kernel
theorem d_D_shutByClearing_87 : decode prog_1_method_52_code 87 = .ok (.iload_n 3, 1) := by decide +kernel
theorem d_D_shutByClearing_88 : decode prog_1_method_52_code 88 = .ok (.bipush 7, 2) := by decide +kernel
theorem d_D_shutByClearing_90 : decode prog_1_method_52_code 90 = .ok (.imul, 1) := by decide +kernel
theorem d_D_shutByClearing_91 : decode prog_1_method_52_code 91 = .ok (.iload 4, 2) := by decide +kernel
theorem d_D_shutByClearing_93 : decode prog_1_method_52_code 93 = .ok (.iadd, 1) := by decide +kernel
theorem d_D_shutByClearing_94 : decode prog_1_method_52_code 94 = .ok (.iaload, 1) := by decide +kernel
theorem d_D_shutByClearing_95 : decode prog_1_method_52_code 95 = .ok (.if_icmp .ge 6, 3) := by decide +kernel
theorem d_D_shutByClearing_98 : decode prog_1_method_52_code 98 = .ok (.iinc 2 1, 3) := by decide +kernel
theorem d_D_shutByClearing_101 : decode prog_1_method_52_code 101 = .ok (.iinc 4 1, 3) := by decide +kernel
theorem d_D_shutByClearing_104 : decode prog_1_method_52_code 104 = .ok (.goto (-53), 3) := by decide +kernel
theorem d_D_shutByClearing_107 : decode prog_1_method_52_code 107 = .ok (.iinc 3 1, 3) := by decide +kernel
theorem d_D_shutByClearing_110 : decode prog_1_method_52_code 110 = .ok (.goto (-73), 3) := by decide +kernel
theorem d_D_shutByClearing_113 : decode prog_1_method_52_code 113 = .ok (.aload_n 0, 1) := by decide +kernel
theorem d_D_shutByClearing_114 : decode prog_1_method_52_code 114 = .ok (.getfield 12, 3) := by decide +kernel
theorem d_D_shutByClearing_117 : decode prog_1_method_52_code 117 = .ok (.getfield 115, 3) := by decide +kernel
theorem d_D_shutByClearing_120 : decode prog_1_method_52_code 120 = .ok (.aload_n 0, 1) := by decide +kernel
theorem d_D_shutByClearing_121 : decode prog_1_method_52_code 121 = .ok (.getfield 27, 3) := by decide +kernel
theorem d_D_shutByClearing_124 : decode prog_1_method_52_code 124 = .ok (.invokevirtual 221, 3) := by decide +kernel
theorem d_D_shutByClearing_127 : decode prog_1_method_52_code 127 = .ok (.iload_n 2, 1) := by decide +kernel
theorem d_D_shutByClearing_128 : decode prog_1_method_52_code 128 = .ok (.ireturn, 1) := by decide +kernel
def w_D_shutByClearing {d : Nat} (hd : 1 ≤ d) := (show SS ("DebtDoors", prog_1_method_52_code, 5) (some .int) d 0 0 0 0 _ from (sS (p1 := 4) (sV (xVv lv_D_388 (xA (rAr rA0 (rAn 0 d_D_shutByClearing_0 rfl))) (by decide) d_D_shutByClearing_1)) (sS (p1 := 18) (sV (xVv lv_D_221 (xA (rAr (rAr rA0 (rFr fl_D_27 nk_11_3 (rAn 0 d_D_shutByClearing_4 rfl) d_D_shutByClearing_5)) (rFr fl_D_115 nk_9_0 (rFr fl_D_12 nk_11_0 (rAn 0 d_D_shutByClearing_8 rfl) d_D_shutByClearing_9) d_D_shutByClearing_12))) (by decide) d_D_shutByClearing_15)) (sS (p1 := 33) (sV (xVv lv_D_318 (xA (rAi (rAr (rAr rA0 (rFr fl_D_79 nk_11_11 (rAn 0 d_D_shutByClearing_18 rfl) d_D_shutByClearing_19)) (rFr fl_D_115 nk_9_0 (rFr fl_D_12 nk_11_0 (rAn 0 d_D_shutByClearing_22 rfl) d_D_shutByClearing_23) d_D_shutByClearing_26)) (rIn 1 d_D_shutByClearing_29 rfl))) (by decide) d_D_shutByClearing_30)) (sS (p1 := 35) (sIn 2 (xE (rI d_D_shutByClearing_33 rfl)) d_D_shutByClearing_34 rfl (by decide)) (sS (p1 := 113) (sS (p1 := 37) (sIn 3 (xE (rI d_D_shutByClearing_35 rfl)) d_D_shutByClearing_36 rfl (by decide)) (sLp (ps := 107) (tt := 48) (pn := 113) (p1 := 0) (p2 := 0) (xC (rNot (rJ2 (tgt := 113) j_ge (rIn 3 d_D_shutByClearing_37 rfl) (rF 6 fl_D_112 nk_9_6 (rFr fl_D_12 nk_11_0 (rAn 0 d_D_shutByClearing_38 rfl) d_D_shutByClearing_39) d_D_shutByClearing_42 rfl) d_D_shutByClearing_45 (by decide)))) (sS (p1 := 51) (sI (xE (rI d_D_shutByClearing_48 rfl)) d_D_shutByClearing_49 (by decide)) (sLp (ps := 101) (tt := 63) (pn := 107) (p1 := 0) (p2 := 0) (xC (rNot (rJ2 (tgt := 107) j_ge (rIl d_D_shutByClearing_51) (rF 6 fl_D_112 nk_9_6 (rFr fl_D_12 nk_11_0 (rAn 0 d_D_shutByClearing_53 rfl) d_D_shutByClearing_54) d_D_shutByClearing_57 rfl) d_D_shutByClearing_60 (by decide)))) (sIf (pn := 101) (tt := 98) (xAnd (mm := 69) (xC (rNot (rJ2 (tgt := 101) j_eq (rIn 3 d_D_shutByClearing_63 rfl) (rIl d_D_shutByClearing_64) d_D_shutByClearing_66 (by decide)))) (xNot (xJ2 (tgt := 101) j_ge (xV lv_D_289 (xA (rAi (rAi (rAr (rAr rA0 (rFr fl_D_51 nk_11_7 (rAn 0 d_D_shutByClearing_69 rfl) d_D_shutByClearing_70)) (rFr fl_D_12 nk_11_0 (rAn 0 d_D_shutByClearing_73 rfl) d_D_shutByClearing_74)) (rIn 3 d_D_shutByClearing_77 rfl)) (rIl d_D_shutByClearing_78))) (by decide) d_D_shutByClearing_80) (xE (rIa (rFr fl_D_90 nk_11_13 (rAn 0 d_D_shutByClearing_83 rfl) d_D_shutByClearing_84) (r2 o_add (r2 o_mul (rIn 3 d_D_shutByClearing_87 rfl) (rB d_D_shutByClearing_88 rfl) d_D_shutByClearing_90) (rIl d_D_shutByClearing_91) d_D_shutByClearing_93) d_D_shutByClearing_94)) d_D_shutByClearing_95 (by decide)))) (sInc d_D_shutByClearing_98 (by decide))) (sGo (pn := 51) (sInc d_D_shutByClearing_101 (by decide)) d_D_shutByClearing_104 (by decide)))) (sGo (pn := 37) (sInc d_D_shutByClearing_107 (by decide)) d_D_shutByClearing_110 (by decide)))) (sS (p1 := 127) (sV (xVv lv_D_221 (xA (rAr (rAr rA0 (rFr fl_D_115 nk_9_0 (rFr fl_D_12 nk_11_0 (rAn 0 d_D_shutByClearing_113 rfl) d_D_shutByClearing_114) d_D_shutByClearing_117)) (rFr fl_D_27 nk_11_3 (rAn 0 d_D_shutByClearing_120 rfl) d_D_shutByClearing_121))) (by decide) d_D_shutByClearing_124)) (sRi (xE (rIn 2 d_D_shutByClearing_127 rfl)) d_D_shutByClearing_128 rfl))))))))
theorem m_D_shutByClearing : Cond.instanceMethod y_D_shutByClearing.1 ∈ zTb ∧ Cond.selects y_D_shutByClearing.1.cls y_D_shutByClearing.1 y_D_shutByClearing.1 ∈ zTb ∧ Cond.initialized y_D_shutByClearing.1.cls ∈ zTb ∧ Cond.code y_D_shutByClearing.1 y_D_shutByClearing.2.1 y_D_shutByClearing.2.2.1 y_D_shutByClearing.2.2.2 ∈ zTb ∧ (y_D_shutByClearing.1.cls ≠ "java/lang/invoke/MethodHandle" ∧ y_D_shutByClearing.1.cls ≠ "java/lang/invoke/VarHandle" ∧ (parseMethodDescriptor y_D_shutByClearing.1.desc).map (fun d => d.parameters.length) = some 1) ∧ y_D_shutByClearing.2.2.1 ≤ 20 :=
  ⟨(zTb_in 1219 (by decide +kernel) (by decide +kernel)), (List.mem_filter.mpr ⟨List.mem_append_left _ (by decide +kernel), by decide +kernel⟩), (zTb_in 139 (by decide +kernel) (by decide +kernel)), (zTb_in 1220 (by decide +kernel) (by decide +kernel)), by decide +kernel, by decide +kernel⟩
theorem lv_D_385 : zLv "DebtDoors" 385 y_D_shutByClearing 1 11 := ⟨⟨(zTb_in 1217 (by decide +kernel) (by decide +kernel)), m_D_shutByClearing.1, m_D_shutByClearing.2.1, m_D_shutByClearing.2.2⟩, _, rfl, rfl⟩
def y_D_cleared : zMt := (⟨"DebtDoors", "cleared", "(I)I"⟩, prog_1_method_51_code, 3, some .int)
theorem d_D_cleared_0 : decode prog_1_method_51_code 0 = .ok (.aload_n 0, 1) := by decide +kernel
theorem d_D_cleared_1 : decode prog_1_method_51_code 1 = .ok (.getfield 79, 3) := by decide +kernel
theorem d_D_cleared_4 : decode prog_1_method_51_code 4 = .ok (.aload_n 0, 1) := by decide +kernel
theorem d_D_cleared_5 : decode prog_1_method_51_code 5 = .ok (.getfield 12, 3) := by decide +kernel
theorem d_D_cleared_8 : decode prog_1_method_51_code 8 = .ok (.invokevirtual 307, 3) := by decide +kernel
theorem d_D_cleared_11 : decode prog_1_method_51_code 11 = .ok (.aload_n 0, 1) := by decide +kernel
theorem d_D_cleared_12 : decode prog_1_method_51_code 12 = .ok (.getfield 79, 3) := by decide +kernel
theorem d_D_cleared_15 : decode prog_1_method_51_code 15 = .ok (.getfield 311, 3) := by decide +kernel
theorem d_D_cleared_18 : decode prog_1_method_51_code 18 = .ok (.ifCond .eq 12, 3) := by decide +kernel
theorem d_D_cleared_21 : decode prog_1_method_51_code 21 = .ok (.iload_n 1, 1) := by decide +kernel
theorem d_D_cleared_22 : decode prog_1_method_51_code 22 = .ok (.iconst 0, 1) := by decide +kernel
theorem d_D_cleared_23 : decode prog_1_method_51_code 23 = .ok (.iconst 1, 1) := by decide +kernel
theorem d_D_cleared_24 : decode prog_1_method_51_code 24 = .ok (.invokestatic 104, 3) := by decide +kernel
theorem d_D_cleared_27 : decode prog_1_method_51_code 27 = .ok (.ifCond .ne 5, 3) := by decide +kernel
theorem d_D_cleared_30 : decode prog_1_method_51_code 30 = .ok (.iconst (-1), 1) := by decide +kernel
theorem d_D_cleared_31 : decode prog_1_method_51_code 31 = .ok (.ireturn, 1) := by decide +kernel
theorem d_D_cleared_32 : decode prog_1_method_51_code 32 = .ok (.aload_n 0, 1) := by decide +kernel
theorem d_D_cleared_33 : decode prog_1_method_51_code 33 = .ok (.getfield 79, 3) := by decide +kernel
theorem d_D_cleared_36 : decode prog_1_method_51_code 36 = .ok (.aload_n 0, 1) := by decide +kernel
theorem d_D_cleared_37 : decode prog_1_method_51_code 37 = .ok (.getfield 12, 3) := by decide +kernel
theorem d_D_cleared_40 : decode prog_1_method_51_code 40 = .ok (.getfield 115, 3) := by decide +kernel
theorem d_D_cleared_43 : decode prog_1_method_51_code 43 = .ok (.invokevirtual 314, 3) := by decide +kernel
theorem d_D_cleared_46 : decode prog_1_method_51_code 46 = .ok (.istore_n 2, 1) := by decide +kernel
theorem d_D_cleared_47 : decode prog_1_method_51_code 47 = .ok (.iload_n 1, 1) := by decide +kernel
theorem d_D_cleared_48 : decode prog_1_method_51_code 48 = .ok (.ifCond .ne 7, 3) := by decide +kernel
theorem d_D_cleared_51 : decode prog_1_method_51_code 51 = .ok (.iload_n 2, 1) := by decide +kernel
theorem d_D_cleared_52 : decode prog_1_method_51_code 52 = .ok (.goto 8, 3) := by decide +kernel
theorem d_D_cleared_55 : decode prog_1_method_51_code 55 = .ok (.aload_n 0, 1) := by decide +kernel
theorem d_D_cleared_56 : decode prog_1_method_51_code 56 = .ok (.iload_n 2, 1) := by decide +kernel
theorem d_D_cleared_57 : decode prog_1_method_51_code 57 = .ok (.invokevirtual 385, 3) := by decide +kernel
theorem d_D_cleared_60 : decode prog_1_method_51_code 60 = .ok (.ireturn, 1) := by decide +kernel
def w_D_cleared {d : Nat} (hd : 4 ≤ d) := (show SS ("DebtDoors", prog_1_method_51_code, 3) (some .int) d 0 0 0 0 _ from (sS (p1 := 11) (sV (xVv lv_D_307 (xA (rAr (rAr rA0 (rFr fl_D_79 nk_11_11 (rAn 0 d_D_cleared_0 rfl) d_D_cleared_1)) (rFr fl_D_12 nk_11_0 (rAn 0 d_D_cleared_4 rfl) d_D_cleared_5))) (by decide) d_D_cleared_8)) (sS (p1 := 32) (sIf (pn := 32) (tt := 30) (xC (rOr (mm := 21) (rJ1 (tgt := 30) k_eq (rF 4 fl_D_311 nk_0_4 (rFr fl_D_79 nk_11_11 (rAn 0 d_D_cleared_11 rfl) d_D_cleared_12) d_D_cleared_15 rfl) d_D_cleared_18 (by decide)) (rNot (rJ1 (tgt := 32) k_ne (rS p_D_between (Nat.le_trans (Nat.le_of_ble_eq_true rfl) hd) ls_D_104 (rAi (rAi (rAi rA0 (rIn 1 d_D_cleared_21 rfl)) (rI d_D_cleared_22 rfl)) (rI d_D_cleared_23 rfl)) (by decide) d_D_cleared_24) d_D_cleared_27 (by decide))))) (sRi (xE (rI d_D_cleared_30 rfl)) d_D_cleared_31 rfl)) (sS (p1 := 47) (sIn 2 (xE (rV p_Cl_least (Nat.le_trans (Nat.le_of_ble_eq_true rfl) hd) lv_D_314 (rAr (rAr rA0 (rFr fl_D_79 nk_11_11 (rAn 0 d_D_cleared_32 rfl) d_D_cleared_33)) (rFr fl_D_115 nk_9_0 (rFr fl_D_12 nk_11_0 (rAn 0 d_D_cleared_36 rfl) d_D_cleared_37) d_D_cleared_40)) (by decide) d_D_cleared_43)) d_D_cleared_46 rfl (by decide)) (sRi (xT2 (xC (rNot (rJ1 (tgt := 55) k_ne (rIn 1 d_D_cleared_47 rfl) d_D_cleared_48 (by decide)))) (xE (rGoE (p2 := 60) (rIn 2 d_D_cleared_51 rfl) d_D_cleared_52 (by decide))) (xV lv_D_385 (xA (rAi (rAr rA0 (rAn 0 d_D_cleared_55 rfl)) (rIn 2 d_D_cleared_56 rfl))) (by decide) d_D_cleared_57)) d_D_cleared_60 rfl)))))
theorem nk_12_45 : zNk 12 45 = none := rfl
def y_M_laysAside : zMt := (⟨"DebtDoorsModel", "laysAside", "(I)V"⟩, prog_14_method_9_code, 3, none)
theorem m_M_laysAside : Cond.instanceMethod y_M_laysAside.1 ∈ zTb ∧ Cond.selects y_M_laysAside.1.cls y_M_laysAside.1 y_M_laysAside.1 ∈ zTb ∧ Cond.initialized y_M_laysAside.1.cls ∈ zTb ∧ Cond.code y_M_laysAside.1 y_M_laysAside.2.1 y_M_laysAside.2.2.1 y_M_laysAside.2.2.2 ∈ zTb ∧ (y_M_laysAside.1.cls ≠ "java/lang/invoke/MethodHandle" ∧ y_M_laysAside.1.cls ≠ "java/lang/invoke/VarHandle" ∧ (parseMethodDescriptor y_M_laysAside.1.desc).map (fun d => d.parameters.length) = some 1) ∧ y_M_laysAside.2.2.1 ≤ 20 :=
  ⟨(zTb_in 1943 (by decide +kernel) (by decide +kernel)), (List.mem_filter.mpr ⟨List.mem_append_left _ (by decide +kernel), by decide +kernel⟩), (zTb_in 151 (by decide +kernel) (by decide +kernel)), (zTb_in 1944 (by decide +kernel) (by decide +kernel)), by decide +kernel, by decide +kernel⟩
theorem lv_M_421 : zLv "DebtDoorsModel" 421 y_M_laysAside 1 12 := ⟨⟨(zTb_in 1941 (by decide +kernel) (by decide +kernel)), m_M_laysAside.1, m_M_laysAside.2.1, m_M_laysAside.2.2⟩, _, rfl, rfl⟩
def y_M_takesBack : zMt := (⟨"DebtDoorsModel", "takesBack", "(I)V"⟩, prog_14_method_10_code, 3, none)
theorem m_M_takesBack : Cond.instanceMethod y_M_takesBack.1 ∈ zTb ∧ Cond.selects y_M_takesBack.1.cls y_M_takesBack.1 y_M_takesBack.1 ∈ zTb ∧ Cond.initialized y_M_takesBack.1.cls ∈ zTb ∧ Cond.code y_M_takesBack.1 y_M_takesBack.2.1 y_M_takesBack.2.2.1 y_M_takesBack.2.2.2 ∈ zTb ∧ (y_M_takesBack.1.cls ≠ "java/lang/invoke/MethodHandle" ∧ y_M_takesBack.1.cls ≠ "java/lang/invoke/VarHandle" ∧ (parseMethodDescriptor y_M_takesBack.1.desc).map (fun d => d.parameters.length) = some 1) ∧ y_M_takesBack.2.2.1 ≤ 20 :=
  ⟨(zTb_in 1947 (by decide +kernel) (by decide +kernel)), (List.mem_filter.mpr ⟨List.mem_append_left _ (by decide +kernel), by decide +kernel⟩), (zTb_in 151 (by decide +kernel) (by decide +kernel)), (zTb_in 1948 (by decide +kernel) (by decide +kernel)), by decide +kernel, by decide +kernel⟩
theorem lv_M_427 : zLv "DebtDoorsModel" 427 y_M_takesBack 1 12 := ⟨⟨(zTb_in 1945 (by decide +kernel) (by decide +kernel)), m_M_takesBack.1, m_M_takesBack.2.1, m_M_takesBack.2.2⟩, _, rfl, rfl⟩
def y_M_cleared : zMt := (⟨"DebtDoorsModel", "cleared", "(I)I"⟩, prog_14_method_126_code, 6, some .int)
theorem d_M_cleared_0 : decode prog_14_method_126_code 0 = .ok (.aload_n 0, 1) := by decide +kernel
theorem d_M_cleared_1 : decode prog_14_method_126_code 1 = .ok (.invokevirtual 455, 3) := by decide +kernel
theorem d_M_cleared_4 : decode prog_14_method_126_code 4 = .ok (.aload_n 0, 1) := by decide +kernel
theorem d_M_cleared_5 : decode prog_14_method_126_code 5 = .ok (.getfield 446, 3) := by decide +kernel
theorem d_M_cleared_8 : decode prog_14_method_126_code 8 = .ok (.ifCond .eq 12, 3) := by decide +kernel
theorem d_M_cleared_11 : decode prog_14_method_126_code 11 = .ok (.iload_n 1, 1) := by decide +kernel
theorem d_M_cleared_12 : decode prog_14_method_126_code 12 = .ok (.iconst 0, 1) := by decide +kernel
theorem d_M_cleared_13 : decode prog_14_method_126_code 13 = .ok (.iconst 1, 1) := by decide +kernel
theorem d_M_cleared_14 : decode prog_14_method_126_code 14 = .ok (.invokestatic 123, 3) := by decide +kernel
theorem d_M_cleared_17 : decode prog_14_method_126_code 17 = .ok (.ifCond .ne 5, 3) := by decide +kernel
theorem d_M_cleared_20 : decode prog_14_method_126_code 20 = .ok (.iconst (-1), 1) := by decide +kernel
theorem d_M_cleared_21 : decode prog_14_method_126_code 21 = .ok (.ireturn, 1) := by decide +kernel
theorem d_M_cleared_22 : decode prog_14_method_126_code 22 = .ok (.aload_n 0, 1) := by decide +kernel
theorem d_M_cleared_23 : decode prog_14_method_126_code 23 = .ok (.invokevirtual 458, 3) := by decide +kernel
theorem d_M_cleared_26 : decode prog_14_method_126_code 26 = .ok (.istore_n 2, 1) := by decide +kernel
theorem d_M_cleared_27 : decode prog_14_method_126_code 27 = .ok (.iload_n 1, 1) := by decide +kernel
theorem d_M_cleared_28 : decode prog_14_method_126_code 28 = .ok (.ifCond .ne 5, 3) := by decide +kernel
theorem d_M_cleared_31 : decode prog_14_method_126_code 31 = .ok (.iload_n 2, 1) := by decide +kernel
theorem d_M_cleared_32 : decode prog_14_method_126_code 32 = .ok (.ireturn, 1) := by decide +kernel
theorem d_M_cleared_33 : decode prog_14_method_126_code 33 = .ok (.iconst 0, 1) := by decide +kernel
theorem d_M_cleared_34 : decode prog_14_method_126_code 34 = .ok (.istore_n 3, 1) := by decide +kernel
theorem d_M_cleared_35 : decode prog_14_method_126_code 35 = .ok (.iload_n 3, 1) := by decide +kernel
theorem d_M_cleared_36 : decode prog_14_method_126_code 36 = .ok (.aload_n 0, 1) := by decide +kernel
theorem d_M_cleared_37 : decode prog_14_method_126_code 37 = .ok (.invokevirtual 133, 3) := by decide +kernel
theorem d_M_cleared_40 : decode prog_14_method_126_code 40 = .ok (.if_icmp .ge 56, 3) := by decide +kernel
theorem d_M_cleared_43 : decode prog_14_method_126_code 43 = .ok (.iconst 0, 1) := by decide +kernel
theorem d_M_cleared_44 : decode prog_14_method_126_code 44 = .ok (.istore 4, 2) := by decide +kernel
theorem d_M_cleared_46 : decode prog_14_method_126_code 46 = .ok (.iload 4, 2) := by decide +kernel
theorem d_M_cleared_48 : decode prog_14_method_126_code 48 = .ok (.aload_n 0, 1) := by decide +kernel
theorem d_M_cleared_49 : decode prog_14_method_126_code 49 = .ok (.invokevirtual 133, 3) := by decide +kernel
theorem d_M_cleared_52 : decode prog_14_method_126_code 52 = .ok (.if_icmp .ge 38, 3) := by decide +kernel
theorem d_M_cleared_55 : decode prog_14_method_126_code 55 = .ok (.aload_n 0, 1) := by decide +kernel
theorem d_M_cleared_56 : decode prog_14_method_126_code 56 = .ok (.getfield 101, 3) := by decide +kernel
theorem d_M_cleared_59 : decode prog_14_method_126_code 59 = .ok (.bipush 7, 2) := by decide +kernel
theorem d_M_cleared_61 : decode prog_14_method_126_code 61 = .ok (.iload_n 3, 1) := by decide +kernel
theorem d_M_cleared_62 : decode prog_14_method_126_code 62 = .ok (.imul, 1) := by decide +kernel
theorem d_M_cleared_63 : decode prog_14_method_126_code 63 = .ok (.iload 4, 2) := by decide +kernel
theorem d_M_cleared_65 : decode prog_14_method_126_code 65 = .ok (.iadd, 1) := by decide +kernel
theorem d_M_cleared_66 : decode prog_14_method_126_code 66 = .ok (.iload_n 3, 1) := by decide +kernel
theorem d_M_cleared_67 : decode prog_14_method_126_code 67 = .ok (.iload 4, 2) := by decide +kernel
theorem d_M_cleared_69 : decode prog_14_method_126_code 69 = .ok (.if_icmp .ne 7, 3) := by decide +kernel
theorem d_M_cleared_72 : decode prog_14_method_126_code 72 = .ok (.iconst 0, 1) := by decide +kernel
theorem d_M_cleared_73 : decode prog_14_method_126_code 73 = .ok (.goto 10, 3) := by decide +kernel
theorem d_M_cleared_76 : decode prog_14_method_126_code 76 = .ok (.aload_n 0, 1) := by decide +kernel
theorem d_M_cleared_77 : decode prog_14_method_126_code 77 = .ok (.iload_n 3, 1) := by decide +kernel
theorem d_M_cleared_78 : decode prog_14_method_126_code 78 = .ok (.iload 4, 2) := by decide +kernel
theorem d_M_cleared_80 : decode prog_14_method_126_code 80 = .ok (.invokevirtual 348, 3) := by decide +kernel
theorem d_M_cleared_83 : decode prog_14_method_126_code 83 = .ok (.iastore, 1) := by decide +kernel
theorem d_M_cleared_84 : decode prog_14_method_126_code 84 = .ok (.iinc 4 1, 3) := by decide +kernel
theorem d_M_cleared_87 : decode prog_14_method_126_code 87 = .ok (.goto (-41), 3) := by decide +kernel
theorem d_M_cleared_90 : decode prog_14_method_126_code 90 = .ok (.iinc 3 1, 3) := by decide +kernel
theorem d_M_cleared_93 : decode prog_14_method_126_code 93 = .ok (.goto (-58), 3) := by decide +kernel
theorem d_M_cleared_96 : decode prog_14_method_126_code 96 = .ok (.aload_n 0, 1) := by decide +kernel
theorem d_M_cleared_97 : decode prog_14_method_126_code 97 = .ok (.bipush 9, 2) := by decide +kernel
theorem d_M_cleared_99 : decode prog_14_method_126_code 99 = .ok (.invokevirtual 421, 3) := by decide +kernel
theorem d_M_cleared_102 : decode prog_14_method_126_code 102 = .ok (.aload_n 0, 1) := by decide +kernel
theorem d_M_cleared_103 : decode prog_14_method_126_code 103 = .ok (.iload_n 2, 1) := by decide +kernel
theorem d_M_cleared_104 : decode prog_14_method_126_code 104 = .ok (.invokevirtual 461, 3) := by decide +kernel
theorem d_M_cleared_107 : decode prog_14_method_126_code 107 = .ok (.iconst 0, 1) := by decide +kernel
theorem d_M_cleared_108 : decode prog_14_method_126_code 108 = .ok (.istore_n 3, 1) := by decide +kernel
theorem d_M_cleared_109 : decode prog_14_method_126_code 109 = .ok (.iconst 0, 1) := by decide +kernel
theorem d_M_cleared_110 : decode prog_14_method_126_code 110 = .ok (.istore 4, 2) := by decide +kernel
theorem d_M_cleared_112 : decode prog_14_method_126_code 112 = .ok (.iload 4, 2) := by decide +kernel
theorem d_M_cleared_114 : decode prog_14_method_126_code 114 = .ok (.aload_n 0, 1) := by decide +kernel
theorem d_M_cleared_115 : decode prog_14_method_126_code 115 = .ok (.invokevirtual 133, 3) := by decide +kernel
theorem d_M_cleared_118 : decode prog_14_method_126_code 118 = .ok (.if_icmp .ge 66, 3) := by decide +kernel
theorem d_M_cleared_121 : decode prog_14_method_126_code 121 = .ok (.iconst 0, 1) := by decide +kernel
theorem d_M_cleared_122 : decode prog_14_method_126_code 122 = .ok (.istore 5, 2) := by decide +kernel
theorem d_M_cleared_124 : decode prog_14_method_126_code 124 = .ok (.iload 5, 2) := by decide +kernel
theorem d_M_cleared_126 : decode prog_14_method_126_code 126 = .ok (.aload_n 0, 1) := by decide +kernel
theorem d_M_cleared_127 : decode prog_14_method_126_code 127 = .ok (.invokevirtual 133, 3) := by decide +kernel
theorem d_M_cleared_130 : decode prog_14_method_126_code 130 = .ok (.if_icmp .ge 48, 3) := by decide +kernel
theorem d_M_cleared_133 : decode prog_14_method_126_code 133 = .ok (.iload_n 3, 1) := by decide +kernel
theorem d_M_cleared_134 : decode prog_14_method_126_code 134 = .ok (.iload 4, 2) := by decide +kernel
theorem d_M_cleared_136 : decode prog_14_method_126_code 136 = .ok (.iload 5, 2) := by decide +kernel
theorem d_M_cleared_138 : decode prog_14_method_126_code 138 = .ok (.if_icmp .eq 31, 3) := by decide +kernel
theorem d_M_cleared_141 : decode prog_14_method_126_code 141 = .ok (.aload_n 0, 1) := by decide +kernel
theorem d_M_cleared_142 : decode prog_14_method_126_code 142 = .ok (.iload 4, 2) := by decide +kernel
theorem d_M_cleared_144 : decode prog_14_method_126_code 144 = .ok (.iload 5, 2) := by decide +kernel
theorem d_M_cleared_146 : decode prog_14_method_126_code 146 = .ok (.invokevirtual 348, 3) := by decide +kernel
theorem d_M_cleared_149 : decode prog_14_method_126_code 149 = .ok (.aload_n 0, 1) := by decide +kernel
theorem d_M_cleared_150 : decode prog_14_method_126_code 150 = .ok (.getfield 101, 3) := by decide +kernel
theorem d_M_cleared_153 : decode prog_14_method_126_code 153 = .ok (.bipush 7, 2) := by decide +kernel
theorem d_M_cleared_155 : decode prog_14_method_126_code 155 = .ok (.iload 4, 2) := by decide +kernel
theorem d_M_cleared_157 : decode prog_14_method_126_code 157 = .ok (.imul, 1) := by decide +kernel
theorem d_M_cleared_158 : decode prog_14_method_126_code 158 = .ok (.iload 5, 2) := by decide +kernel
theorem d_M_cleared_160 : decode prog_14_method_126_code 160 = .ok (.iadd, 1) := by decide +kernel
theorem d_M_cleared_161 : decode prog_14_method_126_code 161 = .ok (.iaload, 1) := by decide +kernel
theorem d_M_cleared_162 : decode prog_14_method_126_code 162 = .ok (.if_icmp .ge 7, 3) := by decide +kernel
theorem d_M_cleared_165 : decode prog_14_method_126_code 165 = .ok (.iconst 1, 1) := by decide +kernel
theorem d_M_cleared_166 : decode prog_14_method_126_code 166 = .ok (.goto 4, 3) := by decide +kernel
theorem d_M_cleared_169 : decode prog_14_method_126_code 169 = .ok (.iconst 0, 1) := by decide +kernel
theorem d_M_cleared_170 : decode prog_14_method_126_code 170 = .ok (.iadd, 1) := by decide +kernel
theorem d_M_cleared_171 : decode prog_14_method_126_code 171 = .ok (.istore_n 3, 1) := by decide +kernel
theorem d_M_cleared_172 : decode prog_14_method_126_code 172 = .ok (.iinc 5 1, 3) := by decide +kernel
theorem d_M_cleared_175 : decode prog_14_method_126_code 175 = .ok (.goto (-51), 3) := by decide +kernel
theorem d_M_cleared_178 : decode prog_14_method_126_code 178 = .ok (.iinc 4 1, 3) := by decide +kernel
theorem d_M_cleared_181 : decode prog_14_method_126_code 181 = .ok (.goto (-69), 3) := by decide +kernel
theorem d_M_cleared_184 : decode prog_14_method_126_code 184 = .ok (.aload_n 0, 1) := by decide +kernel
theorem d_M_cleared_185 : decode prog_14_method_126_code 185 = .ok (.bipush 9, 2) := by decide +kernel
theorem d_M_cleared_187 : decode prog_14_method_126_code 187 = .ok (.invokevirtual 427, 3) := by decide +kernel
theorem d_M_cleared_190 : decode prog_14_method_126_code 190 = .ok (.iload_n 3, 1) := by decide +kernel
theorem d_M_cleared_191 : decode prog_14_method_126_code 191 = .ok (.ireturn, 1) := by decide +kernel
def w_M_cleared {d : Nat} (hd : 4 ≤ d) := (show SS ("DebtDoorsModel", prog_14_method_126_code, 6) (some .int) d 0 0 0 0 _ from (sS (p1 := 4) (sV (xVv lv_M_455 (xA (rAr rA0 (rAn 0 d_M_cleared_0 rfl))) (by decide) d_M_cleared_1)) (sS (p1 := 22) (sIf (pn := 22) (tt := 20) (xC (rOr (mm := 11) (rJ1 (tgt := 20) k_eq (rF 43 fl_M_446 nk_12_43 (rAn 0 d_M_cleared_4 rfl) d_M_cleared_5 rfl) d_M_cleared_8 (by decide)) (rNot (rJ1 (tgt := 22) k_ne (rS p_M_lies (Nat.le_trans (Nat.le_of_ble_eq_true rfl) hd) ls_M_123 (rAi (rAi (rAi rA0 (rIn 1 d_M_cleared_11 rfl)) (rI d_M_cleared_12 rfl)) (rI d_M_cleared_13 rfl)) (by decide) d_M_cleared_14) d_M_cleared_17 (by decide))))) (sRi (xE (rI d_M_cleared_20 rfl)) d_M_cleared_21 rfl)) (sS (p1 := 27) (sIn 2 (xE (rV p_M_ringLeast (Nat.le_trans (Nat.le_of_ble_eq_true rfl) hd) lv_M_458 (rAr rA0 (rAn 0 d_M_cleared_22 rfl)) (by decide) d_M_cleared_23)) d_M_cleared_26 rfl (by decide)) (sS (p1 := 33) (sIf (pn := 33) (tt := 31) (xC (rNot (rJ1 (tgt := 33) k_ne (rIn 1 d_M_cleared_27 rfl) d_M_cleared_28 (by decide)))) (sRi (xE (rIn 2 d_M_cleared_31 rfl)) d_M_cleared_32 rfl)) (sS (p1 := 96) (sS (p1 := 35) (sIn 3 (xE (rI d_M_cleared_33 rfl)) d_M_cleared_34 rfl (by decide)) (sLp (ps := 90) (tt := 43) (pn := 96) (p1 := 0) (p2 := 0) (xC (rNot (rJ2 (tgt := 96) j_ge (rIn 3 d_M_cleared_35 rfl) (rV p_M_people (Nat.le_trans (Nat.le_of_ble_eq_true rfl) hd) lv_M_133 (rAr rA0 (rAn 0 d_M_cleared_36 rfl)) (by decide) d_M_cleared_37) d_M_cleared_40 (by decide)))) (sS (p1 := 46) (sI (xE (rI d_M_cleared_43 rfl)) d_M_cleared_44 (by decide)) (sLp (ps := 84) (tt := 55) (pn := 90) (p1 := 0) (p2 := 0) (xC (rNot (rJ2 (tgt := 90) j_ge (rIl d_M_cleared_46) (rV p_M_people (Nat.le_trans (Nat.le_of_ble_eq_true rfl) hd) lv_M_133 (rAr rA0 (rAn 0 d_M_cleared_48 rfl)) (by decide) d_M_cleared_49) d_M_cleared_52 (by decide)))) (sAs (rFr fl_M_101 nk_12_45 (rAn 0 d_M_cleared_55 rfl) d_M_cleared_56) (r2 o_add (r2 o_mul (rB d_M_cleared_59 rfl) (rIn 3 d_M_cleared_61 rfl) d_M_cleared_62) (rIl d_M_cleared_63) d_M_cleared_65) (xT2 (xC (rNot (rJ2 (tgt := 76) j_ne (rIn 3 d_M_cleared_66 rfl) (rIl d_M_cleared_67) d_M_cleared_69 (by decide)))) (xE (rGoE (p2 := 83) (rI d_M_cleared_72 rfl) d_M_cleared_73 (by decide))) (xV lv_M_348 (xA (rAi (rAi (rAr rA0 (rAn 0 d_M_cleared_76 rfl)) (rIn 3 d_M_cleared_77 rfl)) (rIl d_M_cleared_78))) (by decide) d_M_cleared_80)) d_M_cleared_83) (sGo (pn := 46) (sInc d_M_cleared_84 (by decide)) d_M_cleared_87 (by decide)))) (sGo (pn := 35) (sInc d_M_cleared_90 (by decide)) d_M_cleared_93 (by decide)))) (sS (p1 := 102) (sV (xVv lv_M_421 (xA (rAi (rAr rA0 (rAn 0 d_M_cleared_96 rfl)) (rB d_M_cleared_97 rfl))) (by decide) d_M_cleared_99)) (sS (p1 := 107) (sV (xVv lv_M_461 (xA (rAi (rAr rA0 (rAn 0 d_M_cleared_102 rfl)) (rIn 2 d_M_cleared_103 rfl))) (by decide) d_M_cleared_104)) (sS (p1 := 109) (sIn 3 (xE (rI d_M_cleared_107 rfl)) d_M_cleared_108 rfl (by decide)) (sS (p1 := 184) (sS (p1 := 112) (sI (xE (rI d_M_cleared_109 rfl)) d_M_cleared_110 (by decide)) (sLp (ps := 178) (tt := 121) (pn := 184) (p1 := 0) (p2 := 0) (xC (rNot (rJ2 (tgt := 184) j_ge (rIl d_M_cleared_112) (rV p_M_people (Nat.le_trans (Nat.le_of_ble_eq_true rfl) hd) lv_M_133 (rAr rA0 (rAn 0 d_M_cleared_114 rfl)) (by decide) d_M_cleared_115) d_M_cleared_118 (by decide)))) (sS (p1 := 124) (sI (xE (rI d_M_cleared_121 rfl)) d_M_cleared_122 (by decide)) (sLp (ps := 172) (tt := 133) (pn := 178) (p1 := 0) (p2 := 0) (xC (rNot (rJ2 (tgt := 178) j_ge (rIl d_M_cleared_124) (rV p_M_people (Nat.le_trans (Nat.le_of_ble_eq_true rfl) hd) lv_M_133 (rAr rA0 (rAn 0 d_M_cleared_126 rfl)) (by decide) d_M_cleared_127) d_M_cleared_130 (by decide)))) (sIn 3 (xx2 o_add (xE (rIn 3 d_M_cleared_133 rfl)) (xT2 (xAnd (mm := 141) (xC (rNot (rJ2 (tgt := 169) j_eq (rIl d_M_cleared_134) (rIl d_M_cleared_136) d_M_cleared_138 (by decide)))) (xNot (xJ2 (tgt := 169) j_ge (xV lv_M_348 (xA (rAi (rAi (rAr rA0 (rAn 0 d_M_cleared_141 rfl)) (rIl d_M_cleared_142)) (rIl d_M_cleared_144))) (by decide) d_M_cleared_146) (xE (rIa (rFr fl_M_101 nk_12_45 (rAn 0 d_M_cleared_149 rfl) d_M_cleared_150) (r2 o_add (r2 o_mul (rB d_M_cleared_153 rfl) (rIl d_M_cleared_155) d_M_cleared_157) (rIl d_M_cleared_158) d_M_cleared_160) d_M_cleared_161)) d_M_cleared_162 (by decide)))) (xE (rGoE (p2 := 170) (rI d_M_cleared_165 rfl) d_M_cleared_166 (by decide))) (xE (rI d_M_cleared_169 rfl))) d_M_cleared_170) d_M_cleared_171 rfl (by decide)) (sGo (pn := 124) (sInc d_M_cleared_172 (by decide)) d_M_cleared_175 (by decide)))) (sGo (pn := 112) (sInc d_M_cleared_178 (by decide)) d_M_cleared_181 (by decide)))) (sS (p1 := 190) (sV (xVv lv_M_427 (xA (rAi (rAr rA0 (rAn 0 d_M_cleared_184 rfl)) (rB d_M_cleared_185 rfl))) (by decide) d_M_cleared_187)) (sRi (xE (rIn 3 d_M_cleared_190 rfl)) d_M_cleared_191 rfl))))))))))))
theorem nk_12_5 : zNk 12 5 = none := rfl
theorem d_M_laysAside_0 : decode prog_14_method_9_code 0 = .ok (.iconst 0, 1) := by decide +kernel
theorem d_M_laysAside_1 : decode prog_14_method_9_code 1 = .ok (.istore_n 2, 1) := by decide +kernel
theorem d_M_laysAside_2 : decode prog_14_method_9_code 2 = .ok (.iload_n 2, 1) := by decide +kernel
theorem d_M_laysAside_3 : decode prog_14_method_9_code 3 = .ok (.bipush 73, 2) := by decide +kernel
theorem d_M_laysAside_5 : decode prog_14_method_9_code 5 = .ok (.if_icmp .ge 26, 3) := by decide +kernel
theorem d_M_laysAside_8 : decode prog_14_method_9_code 8 = .ok (.aload_n 0, 1) := by decide +kernel
theorem d_M_laysAside_9 : decode prog_14_method_9_code 9 = .ok (.getfield 34, 3) := by decide +kernel
theorem d_M_laysAside_12 : decode prog_14_method_9_code 12 = .ok (.bipush 73, 2) := by decide +kernel
theorem d_M_laysAside_14 : decode prog_14_method_9_code 14 = .ok (.iload_n 1, 1) := by decide +kernel
theorem d_M_laysAside_15 : decode prog_14_method_9_code 15 = .ok (.imul, 1) := by decide +kernel
theorem d_M_laysAside_16 : decode prog_14_method_9_code 16 = .ok (.iload_n 2, 1) := by decide +kernel
theorem d_M_laysAside_17 : decode prog_14_method_9_code 17 = .ok (.iadd, 1) := by decide +kernel
theorem d_M_laysAside_18 : decode prog_14_method_9_code 18 = .ok (.aload_n 0, 1) := by decide +kernel
theorem d_M_laysAside_19 : decode prog_14_method_9_code 19 = .ok (.getfield 24, 3) := by decide +kernel
theorem d_M_laysAside_22 : decode prog_14_method_9_code 22 = .ok (.iload_n 2, 1) := by decide +kernel
theorem d_M_laysAside_23 : decode prog_14_method_9_code 23 = .ok (.iaload, 1) := by decide +kernel
theorem d_M_laysAside_24 : decode prog_14_method_9_code 24 = .ok (.iastore, 1) := by decide +kernel
theorem d_M_laysAside_25 : decode prog_14_method_9_code 25 = .ok (.iinc 2 1, 3) := by decide +kernel
theorem d_M_laysAside_28 : decode prog_14_method_9_code 28 = .ok (.goto (-26), 3) := by decide +kernel
theorem d_M_laysAside_31 : decode prog_14_method_9_code 31 = .ok (.return_, 1) := by decide +kernel
def w_M_laysAside {d : Nat} (hd : 1 ≤ d) := (show SS ("DebtDoorsModel", prog_14_method_9_code, 3) (none) d 0 0 0 0 _ from (sS (p1 := 31) (sS (p1 := 2) (sIn 2 (xE (rI d_M_laysAside_0 rfl)) d_M_laysAside_1 rfl (by decide)) (sLp (ps := 25) (tt := 8) (pn := 31) (p1 := 0) (p2 := 0) (xC (rNot (rJ2 (tgt := 31) j_ge (rIn 2 d_M_laysAside_2 rfl) (rB d_M_laysAside_3 rfl) d_M_laysAside_5 (by decide)))) (sAs (rFr fl_M_34 nk_12_5 (rAn 0 d_M_laysAside_8 rfl) d_M_laysAside_9) (r2 o_add (r2 o_mul (rB d_M_laysAside_12 rfl) (rIn 1 d_M_laysAside_14 rfl) d_M_laysAside_15) (rIn 2 d_M_laysAside_16 rfl) d_M_laysAside_17) (xE (rIa (rFr fl_M_24 nk_12_2 (rAn 0 d_M_laysAside_18 rfl) d_M_laysAside_19) (rIn 2 d_M_laysAside_22 rfl) d_M_laysAside_23)) d_M_laysAside_24) (sGo (pn := 2) (sInc d_M_laysAside_25 (by decide)) d_M_laysAside_28 (by decide)))) (sRv d_M_laysAside_31 rfl)))
theorem d_M_takesBack_0 : decode prog_14_method_10_code 0 = .ok (.iconst 0, 1) := by decide +kernel
theorem d_M_takesBack_1 : decode prog_14_method_10_code 1 = .ok (.istore_n 2, 1) := by decide +kernel
theorem d_M_takesBack_2 : decode prog_14_method_10_code 2 = .ok (.iload_n 2, 1) := by decide +kernel
theorem d_M_takesBack_3 : decode prog_14_method_10_code 3 = .ok (.bipush 73, 2) := by decide +kernel
theorem d_M_takesBack_5 : decode prog_14_method_10_code 5 = .ok (.if_icmp .ge 26, 3) := by decide +kernel
theorem d_M_takesBack_8 : decode prog_14_method_10_code 8 = .ok (.aload_n 0, 1) := by decide +kernel
theorem d_M_takesBack_9 : decode prog_14_method_10_code 9 = .ok (.getfield 24, 3) := by decide +kernel
theorem d_M_takesBack_12 : decode prog_14_method_10_code 12 = .ok (.iload_n 2, 1) := by decide +kernel
theorem d_M_takesBack_13 : decode prog_14_method_10_code 13 = .ok (.aload_n 0, 1) := by decide +kernel
theorem d_M_takesBack_14 : decode prog_14_method_10_code 14 = .ok (.getfield 34, 3) := by decide +kernel
theorem d_M_takesBack_17 : decode prog_14_method_10_code 17 = .ok (.bipush 73, 2) := by decide +kernel
theorem d_M_takesBack_19 : decode prog_14_method_10_code 19 = .ok (.iload_n 1, 1) := by decide +kernel
theorem d_M_takesBack_20 : decode prog_14_method_10_code 20 = .ok (.imul, 1) := by decide +kernel
theorem d_M_takesBack_21 : decode prog_14_method_10_code 21 = .ok (.iload_n 2, 1) := by decide +kernel
theorem d_M_takesBack_22 : decode prog_14_method_10_code 22 = .ok (.iadd, 1) := by decide +kernel
theorem d_M_takesBack_23 : decode prog_14_method_10_code 23 = .ok (.iaload, 1) := by decide +kernel
theorem d_M_takesBack_24 : decode prog_14_method_10_code 24 = .ok (.iastore, 1) := by decide +kernel
theorem d_M_takesBack_25 : decode prog_14_method_10_code 25 = .ok (.iinc 2 1, 3) := by decide +kernel
theorem d_M_takesBack_28 : decode prog_14_method_10_code 28 = .ok (.goto (-26), 3) := by decide +kernel
theorem d_M_takesBack_31 : decode prog_14_method_10_code 31 = .ok (.return_, 1) := by decide +kernel
def w_M_takesBack {d : Nat} (hd : 1 ≤ d) := (show SS ("DebtDoorsModel", prog_14_method_10_code, 3) (none) d 0 0 0 0 _ from (sS (p1 := 31) (sS (p1 := 2) (sIn 2 (xE (rI d_M_takesBack_0 rfl)) d_M_takesBack_1 rfl (by decide)) (sLp (ps := 25) (tt := 8) (pn := 31) (p1 := 0) (p2 := 0) (xC (rNot (rJ2 (tgt := 31) j_ge (rIn 2 d_M_takesBack_2 rfl) (rB d_M_takesBack_3 rfl) d_M_takesBack_5 (by decide)))) (sAs (rFr fl_M_24 nk_12_2 (rAn 0 d_M_takesBack_8 rfl) d_M_takesBack_9) (rIn 2 d_M_takesBack_12 rfl) (xE (rIa (rFr fl_M_34 nk_12_5 (rAn 0 d_M_takesBack_13 rfl) d_M_takesBack_14) (r2 o_add (r2 o_mul (rB d_M_takesBack_17 rfl) (rIn 1 d_M_takesBack_19 rfl) d_M_takesBack_20) (rIn 2 d_M_takesBack_21 rfl) d_M_takesBack_22) d_M_takesBack_23)) d_M_takesBack_24) (sGo (pn := 2) (sInc d_M_takesBack_25 (by decide)) d_M_takesBack_28 (by decide)))) (sRv d_M_takesBack_31 rfl)))
noncomputable def ciN (p : Nat → Nat → Prop) (h : Nat) : Nat → Int
  | 0 => 0
  | v + 1 => ciN p h v + zbp (p h v)
noncomputable def coN (p : Nat → Nat → Prop) (n : Nat) : Nat → Int
  | 0 => 0
  | h + 1 => coN p n h + ciN p h n
theorem ciN_in {p : Nat → Nat → Prop} {h : Nat} : ∀ v : Nat, 0 ≤ ciN p h v ∧ ciN p h v ≤ v
  | 0 => ⟨Int.le_refl _, Int.le_refl _⟩
  | v + 1 => by
    have := ciN_in (p := p) (h := h) v
    have h2 : zbp (p h v) = 0 ∨ zbp (p h v) = 1 := by rw [zbp_01]; trivial
    unfold ciN
    omega
theorem coN_in {p : Nat → Nat → Prop} {n : Nat} (hn : n ≤ 7) : ∀ h : Nat, 0 ≤ coN p n h ∧ coN p n h ≤ 7 * h
  | 0 => ⟨Int.le_refl _, Int.le_refl _⟩
  | h + 1 => by
    have := coN_in (p := p) hn h
    have h2 := ciN_in (p := p) (h := h) n
    unfold coN
    omega
def shP (Z : Zt) (F : Option (List Cls)) (A B : Lg) (w : Int → Int) : Nat → Nat → Prop := fun h v => h ≠ v ∧ dnA Z F B w h v < dnA Z F A w h v
theorem q_D_fillDepths {d : Nat} (hd : 9 ≤ d) {μ : zMem} {Z : Zt} {F : Option (List Cls)} {A : Lg} {w : Int → Int} (h : CTx μ Z F A w) : zSp d 0 0 y_D_fillDepths zT0 [vr 0] μ zT0 (fun q μ' => q = none ∧ (∀ h v : Nat, (h : Int) < Z.1 → (v : Int) < Z.1 → h ≠ v → μ' 353 ((h : Int) * 7 + v) = dnA Z F A w h v) ∧ zfc [325, 326, 327, 353] μ μ' ∧ wK w (μ' 326)) := by
  have hw := h.2.2.2.2.2
  have hz := h.1.1
  obtain ⟨n, hn⟩ : ∃ n : Nat, Z.1 = (n : Int) := ⟨Z.1.toNat, by omega⟩
  refine zSp.ss [vr 0, vx 0, vx 0] rfl (w_D_fillDepths (Nat.le_trans (by decide) hd)) rfl rfl ?_
  (try simp only [zit_e, Bool.and_eq_true, Bool.or_eq_true, Bool.not_eq_true', Bool.and_eq_false_iff, Bool.or_eq_false_iff, Bool.not_eq_false', zbe, zdt, zdf, zb2_p, zbp_0, zbp_1, zbp_inj, zbp_01, Bool.true_eq_false, Bool.false_eq_true, true_and, and_true, Decidable.not_not, Classical.not_not, implies_true, List.nil_append, List.cons_append, List.append_assoc, Option.some.injEq, Sum.inl.injEq, zSw_c, zSw_n]); (try simp only [zit_e, Bool.and_eq_true, Bool.or_eq_true, Bool.not_eq_true', Bool.and_eq_false_iff, Bool.or_eq_false_iff, Bool.not_eq_false', zbe, zdt, zdf, zb2_p, zbp_0, zbp_1, zbp_inj, zbp_01, Bool.true_eq_false, Bool.false_eq_true, true_and, and_true, Decidable.not_not, Classical.not_not, implies_true, List.nil_append, List.cons_append, List.append_assoc, Option.some.injEq, Sum.inl.injEq, zSw_c, zSw_n, zc_0, zc_1]); (try simp only [zi_cs, zi_c0, zii_cs, zii_c0, zl_cs, zl_c0, zll_cs, zll_c0, zr_cs, zr_c0, zrr_cs, zrr_c0, zxs_cs, zxs_c0, zxx_cs, zxx_c0, zfree_c0, zfree_c1, zfree_cs, zfree_cz, zlong_i, zlong_r, zlong_x, zset_0, zset_s, true_and, and_true, Option.some.injEq, Sum.inl.injEq, Sum.inr.injEq, zb2_p, zbp_0, zbp_1, zbp_inj, zbp_01, Nat.zero_add, Nat.reduceAdd, implies_true, List.nil_append, List.cons_append, List.append_assoc, Int.not_lt, Int.not_le, Decidable.not_not, Int.zero_add, Int.reduceLE, Int.reduceLT, Int.reduceEq, Int.reduceNe, Int.reduceAdd, Int.reduceSub, Int.reduceMul, Int.reduceNeg, Int.reduceToNat, Nat.reduceMul, Nat.reduceLT, Nat.reduceEqDiff, and_self, ite_true, ite_false, zx1, zx2, zRecv, List.length_cons, List.length_nil, ne_eq, not_true_eq_false, not_false_eq_true, true_or, or_true, or_false, false_or, and_false, false_and, zf01, zf10, reduceCtorEq, zSw_c, zSw_n, zm_r, zit_T, zit_F, false_implies, true_implies, zc_0, zc_1])
  refine zLoop.up n (fun j ρ μ1 => ∃ x : zV, ρ = [vr 0, vi j, x] ∧ (∀ h v : Nat, h < j → (v : Int) < Z.1 → h ≠ v → μ1 353 ((h : Int) * 7 + v) = dnA Z F A w h v) ∧ zfc [325, 326, 327, 353] μ μ1 ∧ wK w (μ1 326)) ⟨_, rfl, fun _ _ q => by omega, zfc.rf, hw⟩ ?_
  rintro j ρ μ1 hj ⟨x, rfl, hI, hf, hw1⟩
  have hC1 : CTx μ1 Z F A w := h.k (fun c hc => hf c (by simp only [List.mem_cons, List.not_mem_nil, or_false]; omega)) hw1
  (try simp only [zit_e, Bool.and_eq_true, Bool.or_eq_true, Bool.not_eq_true', Bool.and_eq_false_iff, Bool.or_eq_false_iff, Bool.not_eq_false', zbe, zdt, zdf, zb2_p, zbp_0, zbp_1, zbp_inj, zbp_01, Bool.true_eq_false, Bool.false_eq_true, true_and, and_true, Decidable.not_not, Classical.not_not, implies_true, List.nil_append, List.cons_append, List.append_assoc, Option.some.injEq, Sum.inl.injEq, zSw_c, zSw_n]); (try simp only [zit_e, Bool.and_eq_true, Bool.or_eq_true, Bool.not_eq_true', Bool.and_eq_false_iff, Bool.or_eq_false_iff, Bool.not_eq_false', zbe, zdt, zdf, zb2_p, zbp_0, zbp_1, zbp_inj, zbp_01, Bool.true_eq_false, Bool.false_eq_true, true_and, and_true, Decidable.not_not, Classical.not_not, implies_true, List.nil_append, List.cons_append, List.append_assoc, Option.some.injEq, Sum.inl.injEq, zSw_c, zSw_n, zc_0, zc_1]); (try simp only [zi_cs, zi_c0, zii_cs, zii_c0, zl_cs, zl_c0, zll_cs, zll_c0, zr_cs, zr_c0, zrr_cs, zrr_c0, zxs_cs, zxs_c0, zxx_cs, zxx_c0, zfree_c0, zfree_c1, zfree_cs, zfree_cz, zlong_i, zlong_r, zlong_x, zset_0, zset_s, true_and, and_true, Option.some.injEq, Sum.inl.injEq, Sum.inr.injEq, zb2_p, zbp_0, zbp_1, zbp_inj, zbp_01, Nat.zero_add, Nat.reduceAdd, implies_true, List.nil_append, List.cons_append, List.append_assoc, Int.not_lt, Int.not_le, Decidable.not_not, Int.zero_add, Int.reduceLE, Int.reduceLT, Int.reduceEq, Int.reduceNe, Int.reduceAdd, Int.reduceSub, Int.reduceMul, Int.reduceNeg, Int.reduceToNat, Nat.reduceMul, Nat.reduceLT, Nat.reduceEqDiff, and_self, ite_true, ite_false, zx1, zx2, zRecv, List.length_cons, List.length_nil, ne_eq, not_true_eq_false, not_false_eq_true, true_or, or_true, or_false, false_or, and_false, false_and, zf01, zf10, reduceCtorEq, zSw_c, zSw_n, zm_r, zit_T, zit_F, false_implies, true_implies, zc_0, zc_1])
  rw [hC1.2.2.1.1, hn]
  refine zif (fun c => ?_) (fun c => ?_)
  · refine zLoop.up n (fun i ρ μ2 => ρ = [vr 0, vi j, vi i] ∧ (∀ h v : Nat, (h < j ∧ (v : Int) < Z.1 ∨ h = j ∧ v < i) → h ≠ v → μ2 353 ((h : Int) * 7 + v) = dnA Z F A w h v) ∧ zfc [325, 326, 327, 353] μ μ2 ∧ wK w (μ2 326)) ⟨rfl, fun h v q => hI h v (by omega) (by omega), hf, hw1⟩ ?_
    rintro i ρ μ2 hi ⟨rfl, hI2, hf2, hw2⟩
    have hC2 : CTx μ2 Z F A w := h.k (fun c hc => hf2 c (by simp only [List.mem_cons, List.not_mem_nil, or_false]; omega)) hw2
    (try simp only [zit_e, Bool.and_eq_true, Bool.or_eq_true, Bool.not_eq_true', Bool.and_eq_false_iff, Bool.or_eq_false_iff, Bool.not_eq_false', zbe, zdt, zdf, zb2_p, zbp_0, zbp_1, zbp_inj, zbp_01, Bool.true_eq_false, Bool.false_eq_true, true_and, and_true, Decidable.not_not, Classical.not_not, implies_true, List.nil_append, List.cons_append, List.append_assoc, Option.some.injEq, Sum.inl.injEq, zSw_c, zSw_n]); (try simp only [zit_e, Bool.and_eq_true, Bool.or_eq_true, Bool.not_eq_true', Bool.and_eq_false_iff, Bool.or_eq_false_iff, Bool.not_eq_false', zbe, zdt, zdf, zb2_p, zbp_0, zbp_1, zbp_inj, zbp_01, Bool.true_eq_false, Bool.false_eq_true, true_and, and_true, Decidable.not_not, Classical.not_not, implies_true, List.nil_append, List.cons_append, List.append_assoc, Option.some.injEq, Sum.inl.injEq, zSw_c, zSw_n, zc_0, zc_1, zc_324]); (try simp only [zi_cs, zi_c0, zii_cs, zii_c0, zl_cs, zl_c0, zll_cs, zll_c0, zr_cs, zr_c0, zrr_cs, zrr_c0, zxs_cs, zxs_c0, zxx_cs, zxx_c0, zfree_c0, zfree_c1, zfree_cs, zfree_cz, zlong_i, zlong_r, zlong_x, zset_0, zset_s, true_and, and_true, Option.some.injEq, Sum.inl.injEq, Sum.inr.injEq, zb2_p, zbp_0, zbp_1, zbp_inj, zbp_01, Nat.zero_add, Nat.reduceAdd, implies_true, List.nil_append, List.cons_append, List.append_assoc, Int.not_lt, Int.not_le, Decidable.not_not, Int.zero_add, Int.reduceLE, Int.reduceLT, Int.reduceEq, Int.reduceNe, Int.reduceAdd, Int.reduceSub, Int.reduceMul, Int.reduceNeg, Int.reduceToNat, Nat.reduceMul, Nat.reduceLT, Nat.reduceEqDiff, and_self, ite_true, ite_false, zx1, zx2, zRecv, List.length_cons, List.length_nil, ne_eq, not_true_eq_false, not_false_eq_true, true_or, or_true, or_false, false_or, and_false, false_and, zf01, zf10, reduceCtorEq, zSw_c, zSw_n, zm_r, zit_T, zit_F, false_implies, true_implies, zc_0, zc_1, zc_324])
    rw [hC2.2.2.1.1, hn]
    refine zif (fun c2 => ?_) (fun c2 => ?_)
    · refine zif (fun c3 => ?_) (fun c3 => ?_)
      · refine ⟨⟨by ((try simp only [zI_e]); (first | done | omega | skip)), by ((try simp only [zI_e]); (first | done | omega | skip))⟩, by omega, by omega, ?_⟩
        refine zCw.use (q_C_depthNow (d := 7) (by decide) hC2 (o := j) (v := i) (by omega) (by omega)) (by omega) (fun q μ3 e => ?_)
        obtain ⟨rfl, hcf⟩ := e
        have hf3 : zfc [325, 326, 327, 353] μ μ3 := (hf2.tr hcf.1).mo (by simp)
        refine ⟨_, rfl, by ((try simp only [zI_e]); (first | done | omega | skip)), znx (by omega) ⟨rfl, fun h v q r => ?_, hf3.zm (by decide), by rw [zm_off _ (by decide)]; exact hcf.2⟩⟩
        by_cases e3 : h = j ∧ v = i
        · rw [e3.1, e3.2, zit_t rfl]
        · rw [zit_f (by omega), hcf.1 353 (by decide)]
          exact hI2 h v (by omega) r
      · exact ⟨by ((try simp only [zI_e]); (first | done | omega | skip)), znx (by omega) ⟨rfl, fun h v q r => hI2 h v (by omega) r, hf2, hw2⟩⟩
    · have : i = n := by omega
      subst this
      exact ⟨by ((try simp only [zI_e]); (first | done | omega | skip)), znx (by omega) ⟨_, rfl, fun h v q r s => hI2 h v (by omega) s, hf2, hw2⟩⟩
  · have : j = n := by omega
    subst this
    exact ⟨fun h v q r s => hI h v (by omega) (by omega) s, hf, hw1⟩
theorem q_M_laysAside {d : Nat} (hd : 1 ≤ d) {μ : zMem} {k : Int} (hk : 0 ≤ k ∧ k ≤ 10) : zSp d 0 0 y_M_laysAside zT0 [vr 355, vi k] μ zT0 (fun q μ' => q = none ∧ (∀ y, μ' 360 y = zit (73 * k ≤ y ∧ y < 73 * k + 73) (μ 357 (y - 73 * k)) (μ 360 y)) ∧ zfc [360] μ μ') := by
  refine zSp.ss [vr 355, vi k, vx 0] rfl (w_M_laysAside hd) rfl rfl ?_
  (try simp only [zit_e, Bool.and_eq_true, Bool.or_eq_true, Bool.not_eq_true', Bool.and_eq_false_iff, Bool.or_eq_false_iff, Bool.not_eq_false', zbe, zdt, zdf, zb2_p, zbp_0, zbp_1, zbp_inj, zbp_01, Bool.true_eq_false, Bool.false_eq_true, true_and, and_true, Decidable.not_not, Classical.not_not, implies_true, List.nil_append, List.cons_append, List.append_assoc, Option.some.injEq, Sum.inl.injEq, zSw_c, zSw_n]); (try simp only [zit_e, Bool.and_eq_true, Bool.or_eq_true, Bool.not_eq_true', Bool.and_eq_false_iff, Bool.or_eq_false_iff, Bool.not_eq_false', zbe, zdt, zdf, zb2_p, zbp_0, zbp_1, zbp_inj, zbp_01, Bool.true_eq_false, Bool.false_eq_true, true_and, and_true, Decidable.not_not, Classical.not_not, implies_true, List.nil_append, List.cons_append, List.append_assoc, Option.some.injEq, Sum.inl.injEq, zSw_c, zSw_n, zc_355]); (try simp only [zi_cs, zi_c0, zii_cs, zii_c0, zl_cs, zl_c0, zll_cs, zll_c0, zr_cs, zr_c0, zrr_cs, zrr_c0, zxs_cs, zxs_c0, zxx_cs, zxx_c0, zfree_c0, zfree_c1, zfree_cs, zfree_cz, zlong_i, zlong_r, zlong_x, zset_0, zset_s, true_and, and_true, Option.some.injEq, Sum.inl.injEq, Sum.inr.injEq, zb2_p, zbp_0, zbp_1, zbp_inj, zbp_01, Nat.zero_add, Nat.reduceAdd, implies_true, List.nil_append, List.cons_append, List.append_assoc, Int.not_lt, Int.not_le, Decidable.not_not, Int.zero_add, Int.reduceLE, Int.reduceLT, Int.reduceEq, Int.reduceNe, Int.reduceAdd, Int.reduceSub, Int.reduceMul, Int.reduceNeg, Int.reduceToNat, Nat.reduceMul, Nat.reduceLT, Nat.reduceEqDiff, and_self, ite_true, ite_false, zx1, zx2, zRecv, List.length_cons, List.length_nil, ne_eq, not_true_eq_false, not_false_eq_true, true_or, or_true, or_false, false_or, and_false, false_and, zf01, zf10, reduceCtorEq, zSw_c, zSw_n, zm_r, zit_T, zit_F, false_implies, true_implies, zc_355])
  refine zLoop.up 73 (fun j ρ μ1 => ρ = [vr 355, vi k, vi j] ∧ (∀ y, μ1 360 y = zit (73 * k ≤ y ∧ y < 73 * k + j) (μ 357 (y - 73 * k)) (μ 360 y)) ∧ zfc [360] μ μ1) ⟨rfl, fun y => by rw [zit_f (by omega)], zfc.rf⟩ ?_
  rintro j ρ μ1 hj ⟨rfl, e1, e2⟩
  (try simp only [zit_e, Bool.and_eq_true, Bool.or_eq_true, Bool.not_eq_true', Bool.and_eq_false_iff, Bool.or_eq_false_iff, Bool.not_eq_false', zbe, zdt, zdf, zb2_p, zbp_0, zbp_1, zbp_inj, zbp_01, Bool.true_eq_false, Bool.false_eq_true, true_and, and_true, Decidable.not_not, Classical.not_not, implies_true, List.nil_append, List.cons_append, List.append_assoc, Option.some.injEq, Sum.inl.injEq, zSw_c, zSw_n]); (try simp only [zit_e, Bool.and_eq_true, Bool.or_eq_true, Bool.not_eq_true', Bool.and_eq_false_iff, Bool.or_eq_false_iff, Bool.not_eq_false', zbe, zdt, zdf, zb2_p, zbp_0, zbp_1, zbp_inj, zbp_01, Bool.true_eq_false, Bool.false_eq_true, true_and, and_true, Decidable.not_not, Classical.not_not, implies_true, List.nil_append, List.cons_append, List.append_assoc, Option.some.injEq, Sum.inl.injEq, zSw_c, zSw_n, zc_355]); (try simp only [zi_cs, zi_c0, zii_cs, zii_c0, zl_cs, zl_c0, zll_cs, zll_c0, zr_cs, zr_c0, zrr_cs, zrr_c0, zxs_cs, zxs_c0, zxx_cs, zxx_c0, zfree_c0, zfree_c1, zfree_cs, zfree_cz, zlong_i, zlong_r, zlong_x, zset_0, zset_s, true_and, and_true, Option.some.injEq, Sum.inl.injEq, Sum.inr.injEq, zb2_p, zbp_0, zbp_1, zbp_inj, zbp_01, Nat.zero_add, Nat.reduceAdd, implies_true, List.nil_append, List.cons_append, List.append_assoc, Int.not_lt, Int.not_le, Decidable.not_not, Int.zero_add, Int.reduceLE, Int.reduceLT, Int.reduceEq, Int.reduceNe, Int.reduceAdd, Int.reduceSub, Int.reduceMul, Int.reduceNeg, Int.reduceToNat, Nat.reduceMul, Nat.reduceLT, Nat.reduceEqDiff, and_self, ite_true, ite_false, zx1, zx2, zRecv, List.length_cons, List.length_nil, ne_eq, not_true_eq_false, not_false_eq_true, true_or, or_true, or_false, false_or, and_false, false_and, zf01, zf10, reduceCtorEq, zSw_c, zSw_n, zm_r, zit_T, zit_F, false_implies, true_implies, zc_355])
  refine zif (fun c => ?_) (fun c => ?_)
  · refine ⟨⟨by ((try simp only [zI_e]); (first | done | omega | skip)), by ((try simp only [zI_e]); (first | done | omega | skip))⟩, by omega, by omega, ⟨by omega, by omega⟩, by ((try simp only [zI_e]); (first | done | omega | skip)), znx (by omega) ⟨rfl, fun y => ?_, e2.zm (by decide)⟩⟩
    rw [e2 357 (by decide), e1]
    by_cases ey : y = 73 * k + j
    · rw [zit_t ey, zit_t (by omega), ey, show 73 * k + (j : Int) - 73 * k = j by omega]
    · rw [zit_f ey]
      by_cases e3 : 73 * k ≤ y ∧ y < 73 * k + j
      · rw [zit_t e3, zit_t (by omega)]
      · rw [zit_f e3, zit_f (by omega)]
  · have : j = 73 := by omega
    subst this
    exact ⟨e1, e2⟩
theorem q_M_takesBack {d : Nat} (hd : 1 ≤ d) {μ : zMem} {k : Int} (hk : 0 ≤ k ∧ k ≤ 10) : zSp d 0 0 y_M_takesBack zT0 [vr 355, vi k] μ zT0 (fun q μ' => q = none ∧ (∀ y, μ' 357 y = zit (0 ≤ y ∧ y < 73) (μ 360 (73 * k + y)) (μ 357 y)) ∧ zfc [357] μ μ') := by
  refine zSp.ss [vr 355, vi k, vx 0] rfl (w_M_takesBack hd) rfl rfl ?_
  (try simp only [zit_e, Bool.and_eq_true, Bool.or_eq_true, Bool.not_eq_true', Bool.and_eq_false_iff, Bool.or_eq_false_iff, Bool.not_eq_false', zbe, zdt, zdf, zb2_p, zbp_0, zbp_1, zbp_inj, zbp_01, Bool.true_eq_false, Bool.false_eq_true, true_and, and_true, Decidable.not_not, Classical.not_not, implies_true, List.nil_append, List.cons_append, List.append_assoc, Option.some.injEq, Sum.inl.injEq, zSw_c, zSw_n]); (try simp only [zit_e, Bool.and_eq_true, Bool.or_eq_true, Bool.not_eq_true', Bool.and_eq_false_iff, Bool.or_eq_false_iff, Bool.not_eq_false', zbe, zdt, zdf, zb2_p, zbp_0, zbp_1, zbp_inj, zbp_01, Bool.true_eq_false, Bool.false_eq_true, true_and, and_true, Decidable.not_not, Classical.not_not, implies_true, List.nil_append, List.cons_append, List.append_assoc, Option.some.injEq, Sum.inl.injEq, zSw_c, zSw_n, zc_355]); (try simp only [zi_cs, zi_c0, zii_cs, zii_c0, zl_cs, zl_c0, zll_cs, zll_c0, zr_cs, zr_c0, zrr_cs, zrr_c0, zxs_cs, zxs_c0, zxx_cs, zxx_c0, zfree_c0, zfree_c1, zfree_cs, zfree_cz, zlong_i, zlong_r, zlong_x, zset_0, zset_s, true_and, and_true, Option.some.injEq, Sum.inl.injEq, Sum.inr.injEq, zb2_p, zbp_0, zbp_1, zbp_inj, zbp_01, Nat.zero_add, Nat.reduceAdd, implies_true, List.nil_append, List.cons_append, List.append_assoc, Int.not_lt, Int.not_le, Decidable.not_not, Int.zero_add, Int.reduceLE, Int.reduceLT, Int.reduceEq, Int.reduceNe, Int.reduceAdd, Int.reduceSub, Int.reduceMul, Int.reduceNeg, Int.reduceToNat, Nat.reduceMul, Nat.reduceLT, Nat.reduceEqDiff, and_self, ite_true, ite_false, zx1, zx2, zRecv, List.length_cons, List.length_nil, ne_eq, not_true_eq_false, not_false_eq_true, true_or, or_true, or_false, false_or, and_false, false_and, zf01, zf10, reduceCtorEq, zSw_c, zSw_n, zm_r, zit_T, zit_F, false_implies, true_implies, zc_355])
  refine zLoop.up 73 (fun j ρ μ1 => ρ = [vr 355, vi k, vi j] ∧ (∀ y, μ1 357 y = zit (0 ≤ y ∧ y < j) (μ 360 (73 * k + y)) (μ 357 y)) ∧ zfc [357] μ μ1) ⟨rfl, fun y => by rw [zit_f (by omega)], zfc.rf⟩ ?_
  rintro j ρ μ1 hj ⟨rfl, e1, e2⟩
  (try simp only [zit_e, Bool.and_eq_true, Bool.or_eq_true, Bool.not_eq_true', Bool.and_eq_false_iff, Bool.or_eq_false_iff, Bool.not_eq_false', zbe, zdt, zdf, zb2_p, zbp_0, zbp_1, zbp_inj, zbp_01, Bool.true_eq_false, Bool.false_eq_true, true_and, and_true, Decidable.not_not, Classical.not_not, implies_true, List.nil_append, List.cons_append, List.append_assoc, Option.some.injEq, Sum.inl.injEq, zSw_c, zSw_n]); (try simp only [zit_e, Bool.and_eq_true, Bool.or_eq_true, Bool.not_eq_true', Bool.and_eq_false_iff, Bool.or_eq_false_iff, Bool.not_eq_false', zbe, zdt, zdf, zb2_p, zbp_0, zbp_1, zbp_inj, zbp_01, Bool.true_eq_false, Bool.false_eq_true, true_and, and_true, Decidable.not_not, Classical.not_not, implies_true, List.nil_append, List.cons_append, List.append_assoc, Option.some.injEq, Sum.inl.injEq, zSw_c, zSw_n, zc_355]); (try simp only [zi_cs, zi_c0, zii_cs, zii_c0, zl_cs, zl_c0, zll_cs, zll_c0, zr_cs, zr_c0, zrr_cs, zrr_c0, zxs_cs, zxs_c0, zxx_cs, zxx_c0, zfree_c0, zfree_c1, zfree_cs, zfree_cz, zlong_i, zlong_r, zlong_x, zset_0, zset_s, true_and, and_true, Option.some.injEq, Sum.inl.injEq, Sum.inr.injEq, zb2_p, zbp_0, zbp_1, zbp_inj, zbp_01, Nat.zero_add, Nat.reduceAdd, implies_true, List.nil_append, List.cons_append, List.append_assoc, Int.not_lt, Int.not_le, Decidable.not_not, Int.zero_add, Int.reduceLE, Int.reduceLT, Int.reduceEq, Int.reduceNe, Int.reduceAdd, Int.reduceSub, Int.reduceMul, Int.reduceNeg, Int.reduceToNat, Nat.reduceMul, Nat.reduceLT, Nat.reduceEqDiff, and_self, ite_true, ite_false, zx1, zx2, zRecv, List.length_cons, List.length_nil, ne_eq, not_true_eq_false, not_false_eq_true, true_or, or_true, or_false, false_or, and_false, false_and, zf01, zf10, reduceCtorEq, zSw_c, zSw_n, zm_r, zit_T, zit_F, false_implies, true_implies, zc_355])
  refine zif (fun c => ?_) (fun c => ?_)
  · refine ⟨by omega, by omega, ⟨⟨by ((try simp only [zI_e]); (first | done | omega | skip)), by ((try simp only [zI_e]); (first | done | omega | skip))⟩, by omega, by omega⟩, by ((try simp only [zI_e]); (first | done | omega | skip)), znx (by omega) ⟨rfl, fun y => ?_, e2.zm (by decide)⟩⟩
    rw [e2 360 (by decide), e1]
    by_cases ey : y = j
    · rw [zit_t ey, zit_t (by omega), ey]
    · rw [zit_f ey]
      by_cases e3 : 0 ≤ y ∧ y < j
      · rw [zit_t e3, zit_t (by omega)]
      · rw [zit_f e3, zit_f (by omega)]
  · have : j = 73 := by omega
    subst this
    exact ⟨e1, e2⟩
/-- what was laid aside of the ledger is there again -/
theorem MTx.bk {μ μ' : zMem} {Z : Zt} {F : Option (List Cls)} {A B : Lg} {w : Int → Int} (h : MTx μ Z F A w) (hB : okA B) {κ : Int → Int} (h1 : ∀ y : Int, 0 ≤ y → y < 73 → μ' 357 y = κ y) (h2 : ∀ i : Int, 73 ≤ i → μ' 357 i = μ 357 i) (h3 : (tL 7 κ, dbM (fun _ => κ), κ 72) = B) (h4 : 0 ≤ κ 71 ∧ κ 71 ≤ 16) : MTx μ' Z F B w := by
  refine h.up hB ?_ (by rw [h1 71 (by decide) (by decide)]; exact h4.1) h2
  rw [← h3]
  refine lgM_is (tL_congr (fun i a b => h1 i a (by omega))) ?_ (h1 72 (by decide) (by decide))
  exact dbM_c (μ := fun _ => κ) (μ' := μ') (by show κ 71 ≤ 16; exact h4.2) (fun j p q => h1 j (by omega) (by omega))
/-- the ledger on paper -/
def PpC (A : Lg) (μ : zMem) : Prop := lgO μ 105 = A ∧ 0 ≤ μ 105 5 ∧ μ 105 5 ≤ 16
theorem PpC.c {A : Lg} {μ μ' : zMem} (h : PpC A μ) (h1 : ∀ c : Nat, 105 ≤ c → c ≤ 110 → μ' c = μ c) : PpC A μ' := by
  unfold PpC at *
  rw [h1 105 (by decide) (by decide)]
  exact ⟨(lgO_c (fun c hc => h1 _ (by omega) (by omega))).trans h.1, h.2⟩
theorem pp_w {d : Nat} {μ : zMem} {Z : Zt} {F : Option (List Cls)} {A : Lg} {w : Int → Int} {K : zRo} (hd : 5 ≤ d) (h : CTx μ Z F A w) (hk : ∀ μ', CTx μ' Z F A w → PpC A μ' → zfc [105, 106, 107, 108, 109, 110] μ μ' → K none μ') : zCw d y_Le_copyFrom [vr 105, vr 2] μ K := by
  have n5 := h.n.2.2.2.2.1
  refine zCw.use (q_Le_copyFrom (d := 4) (by decide) zc_105.1.1 zc_2.1.1 (by decide)) hd (fun q μ' e => ?_)
  obtain ⟨rfl, b1, b2, b3, b4, b5⟩ := e
  exact hk μ' (h.k (fun c hc => b5 c (by simp only [List.mem_cons, List.not_mem_nil, or_false]; omega)) (by rw [b5 326 (by decide)]; exact h.2.2.2.2.2)) ⟨(lgO_cp n5 b1 b2 b3 b4).trans h.2.2.2.1.1, by rw [b3]; exact n5⟩ b5
theorem pb_w {d : Nat} {μ : zMem} {Z : Zt} {F : Option (List Cls)} {A B : Lg} {w : Int → Int} {K : zRo} (hd : 5 ≤ d) (h : CTx μ Z F B w) (hA : okA A) (hp : PpC A μ) (hk : ∀ μ', CTx μ' Z F A w → zfc [2, 3, 4, 5, 6, 7] μ μ' → K none μ') : zCw d y_Le_copyFrom [vr 2, vr 105] μ K := by
  refine zCw.use (q_Le_copyFrom (d := 4) (by decide) zc_2.1.1 zc_105.1.1 (by decide)) hd (fun q μ' e => ?_)
  obtain ⟨rfl, b1, b2, b3, b4, b5⟩ := e
  exact hk μ' (h.up hA ((lgO_cp hp.2 b1 b2 b3 b4).trans hp.1) (by rw [b3]; exact hp.2.1) (fun c hc => b5 c (by simp only [List.mem_cons, List.not_mem_nil, or_false]; omega)) (by rw [b5 326 (by decide)]; exact h.2.2.2.2.2)) b5
theorem q_D_shutByClearing {d : Nat} (hd : 10 ≤ d) {μ : zMem} {Z : Zt} {F : Option (List Cls)} {A : Lg} {w : Int → Int} {l : List Nat} {m : Int} {n : Nat} (h : CTx μ Z F A w) (hn : Z.1 = (n : Int)) (hl : 1 ≤ l.length ∧ l.length ≤ 7) (hm : 0 ≤ m ∧ m ≤ 1000000) (hR : RgC (some l) μ) : zSp d 0 0 y_D_shutByClearing zT0 [vr 0, vi m] μ zT0 (fun q μ' => q = some (vi (coN (shP Z F A (clA l m A l.length) w) n n)) ∧ CTx μ' Z F A w ∧ zfc [2, 3, 4, 5, 6, 7, 105, 106, 107, 108, 109, 110, 325, 326, 327, 353] μ μ') := by
  have hz := h.1.1
  refine zSp.ss [vr 0, vi m, vx 0, vx 0, vx 0] rfl (w_D_shutByClearing (Nat.le_trans (by decide) hd)) rfl rfl ?_
  (try simp only [zit_e, Bool.and_eq_true, Bool.or_eq_true, Bool.not_eq_true', Bool.and_eq_false_iff, Bool.or_eq_false_iff, Bool.not_eq_false', zbe, zdt, zdf, zb2_p, zbp_0, zbp_1, zbp_inj, zbp_01, Bool.true_eq_false, Bool.false_eq_true, true_and, and_true, Decidable.not_not, Classical.not_not, implies_true, List.nil_append, List.cons_append, List.append_assoc, Option.some.injEq, Sum.inl.injEq, zSw_c, zSw_n]); (try simp only [zit_e, Bool.and_eq_true, Bool.or_eq_true, Bool.not_eq_true', Bool.and_eq_false_iff, Bool.or_eq_false_iff, Bool.not_eq_false', zbe, zdt, zdf, zb2_p, zbp_0, zbp_1, zbp_inj, zbp_01, Bool.true_eq_false, Bool.false_eq_true, true_and, and_true, Decidable.not_not, Classical.not_not, implies_true, List.nil_append, List.cons_append, List.append_assoc, Option.some.injEq, Sum.inl.injEq, zSw_c, zSw_n, zc_0, zc_1]); (try simp only [zi_cs, zi_c0, zii_cs, zii_c0, zl_cs, zl_c0, zll_cs, zll_c0, zr_cs, zr_c0, zrr_cs, zrr_c0, zxs_cs, zxs_c0, zxx_cs, zxx_c0, zfree_c0, zfree_c1, zfree_cs, zfree_cz, zlong_i, zlong_r, zlong_x, zset_0, zset_s, true_and, and_true, Option.some.injEq, Sum.inl.injEq, Sum.inr.injEq, zb2_p, zbp_0, zbp_1, zbp_inj, zbp_01, Nat.zero_add, Nat.reduceAdd, implies_true, List.nil_append, List.cons_append, List.append_assoc, Int.not_lt, Int.not_le, Decidable.not_not, Int.zero_add, Int.reduceLE, Int.reduceLT, Int.reduceEq, Int.reduceNe, Int.reduceAdd, Int.reduceSub, Int.reduceMul, Int.reduceNeg, Int.reduceToNat, Nat.reduceMul, Nat.reduceLT, Nat.reduceEqDiff, and_self, ite_true, ite_false, zx1, zx2, zRecv, List.length_cons, List.length_nil, ne_eq, not_true_eq_false, not_false_eq_true, true_or, or_true, or_false, false_or, and_false, false_and, zf01, zf10, reduceCtorEq, zSw_c, zSw_n, zm_r, zit_T, zit_F, false_implies, true_implies, zc_0, zc_1])
  refine zCw.use (q_D_fillDepths (d := 9) (by decide) h) (by omega) (fun q μ1 e => ?_)
  obtain ⟨rfl, d1, d2, d3⟩ := e
  have hC1 : CTx μ1 Z F A w := h.k (fun c hc => d2 c (by simp only [List.mem_cons, List.not_mem_nil, or_false]; omega)) d3
  refine ⟨rfl, zc_105.1.1, pp_w (by omega) hC1 (fun μ2 hC2 hP2 f2 => ?_)⟩
  refine ⟨rfl, ?_⟩
  (try simp only [zit_e, Bool.and_eq_true, Bool.or_eq_true, Bool.not_eq_true', Bool.and_eq_false_iff, Bool.or_eq_false_iff, Bool.not_eq_false', zbe, zdt, zdf, zb2_p, zbp_0, zbp_1, zbp_inj, zbp_01, Bool.true_eq_false, Bool.false_eq_true, true_and, and_true, Decidable.not_not, Classical.not_not, implies_true, List.nil_append, List.cons_append, List.append_assoc, Option.some.injEq, Sum.inl.injEq, zSw_c, zSw_n]); (try simp only [zit_e, Bool.and_eq_true, Bool.or_eq_true, Bool.not_eq_true', Bool.and_eq_false_iff, Bool.or_eq_false_iff, Bool.not_eq_false', zbe, zdt, zdf, zb2_p, zbp_0, zbp_1, zbp_inj, zbp_01, Bool.true_eq_false, Bool.false_eq_true, true_and, and_true, Decidable.not_not, Classical.not_not, implies_true, List.nil_append, List.cons_append, List.append_assoc, Option.some.injEq, Sum.inl.injEq, zSw_c, zSw_n, zc_0, zc_1, zc_346]); (try simp only [zi_cs, zi_c0, zii_cs, zii_c0, zl_cs, zl_c0, zll_cs, zll_c0, zr_cs, zr_c0, zrr_cs, zrr_c0, zxs_cs, zxs_c0, zxx_cs, zxx_c0, zfree_c0, zfree_c1, zfree_cs, zfree_cz, zlong_i, zlong_r, zlong_x, zset_0, zset_s, true_and, and_true, Option.some.injEq, Sum.inl.injEq, Sum.inr.injEq, zb2_p, zbp_0, zbp_1, zbp_inj, zbp_01, Nat.zero_add, Nat.reduceAdd, implies_true, List.nil_append, List.cons_append, List.append_assoc, Int.not_lt, Int.not_le, Decidable.not_not, Int.zero_add, Int.reduceLE, Int.reduceLT, Int.reduceEq, Int.reduceNe, Int.reduceAdd, Int.reduceSub, Int.reduceMul, Int.reduceNeg, Int.reduceToNat, Nat.reduceMul, Nat.reduceLT, Nat.reduceEqDiff, and_self, ite_true, ite_false, zx1, zx2, zRecv, List.length_cons, List.length_nil, ne_eq, not_true_eq_false, not_false_eq_true, true_or, or_true, or_false, false_or, and_false, false_and, zf01, zf10, reduceCtorEq, zSw_c, zSw_n, zm_r, zit_T, zit_F, false_implies, true_implies, zc_0, zc_1, zc_346])
  have hR2 : RgC (some l) μ2 := ⟨by rw [f2 346 (by decide), d2 346 (by decide)]; exact hR.1, fun i hi => by rw [f2 350 (by decide), d2 350 (by decide)]; exact hR.2 i hi⟩
  refine zCw.use (q_Cl_lessenAll (d := 8) (by decide) hC2 hl hm hR2) (by omega) (fun q μ3 e => ?_)
  obtain ⟨rfl, hC3, f3⟩ := e
  refine ⟨rfl, ?_⟩
  generalize hB : clA l m A l.length = B at *
  have hP3 : PpC A μ3 := hP2.c (fun c p q => f3 c (by simp only [List.mem_cons, List.not_mem_nil, or_false]; omega))
  have hd3 : ∀ h v : Nat, h < n → v < n → h ≠ v → μ3 353 ((h : Int) * 7 + v) = dnA Z F A w h v := fun h v p q r => by
    rw [f3 353 (by decide), f2 353 (by decide)]
    exact d1 h v (by omega) (by omega) r
  have hf3 : zfc [2, 3, 4, 5, 6, 7, 105, 106, 107, 108, 109, 110, 325, 326, 327, 353] μ μ3 := ((d2.tr f2).tr f3).mo (by simp)
  clear d1 d2 f2 f3 hR2 hP2 hC2 hC1
  have fin : ∀ {μ4 : zMem}, CTx μ4 Z F B w → zfc [325, 326, 327] μ3 μ4 → zCw d y_Le_copyFrom [vr 2, vr 105] μ4 (fun q μ5 => q = none ∧ coN (shP Z F A B w) n n = coN (shP Z F A B w) n n ∧ CTx μ5 Z F A w ∧ zfc [2, 3, 4, 5, 6, 7, 105, 106, 107, 108, 109, 110, 325, 326, 327, 353] μ μ5) := fun {μ4} hC hf => pb_w (by omega) hC h.2.1 (hP3.c (fun c p q => hf c (by simp only [List.mem_cons, List.not_mem_nil, or_false]; omega))) (fun μ5 hC5 f5 => ⟨rfl, rfl, hC5, ((hf3.tr hf).tr f5).mo (by simp)⟩)
  refine zLoop.up n (fun j ρ μ4 => ∃ x : zV, ρ = [vr 0, vi m, vi (coN (shP Z F A B w) n j), vi j, x] ∧ zfc [325, 326, 327] μ3 μ4 ∧ wK w (μ4 326)) ⟨_, rfl, zfc.rf, hC3.2.2.2.2.2⟩ ?_
  rintro j ρ μ4 hj ⟨x, rfl, f4, w4⟩
  have hC4 : CTx μ4 Z F B w := hC3.k (fun c hc => f4 c (by simp only [List.mem_cons, List.not_mem_nil, or_false]; omega)) w4
  (try simp only [zit_e, Bool.and_eq_true, Bool.or_eq_true, Bool.not_eq_true', Bool.and_eq_false_iff, Bool.or_eq_false_iff, Bool.not_eq_false', zbe, zdt, zdf, zb2_p, zbp_0, zbp_1, zbp_inj, zbp_01, Bool.true_eq_false, Bool.false_eq_true, true_and, and_true, Decidable.not_not, Classical.not_not, implies_true, List.nil_append, List.cons_append, List.append_assoc, Option.some.injEq, Sum.inl.injEq, zSw_c, zSw_n]); (try simp only [zit_e, Bool.and_eq_true, Bool.or_eq_true, Bool.not_eq_true', Bool.and_eq_false_iff, Bool.or_eq_false_iff, Bool.not_eq_false', zbe, zdt, zdf, zb2_p, zbp_0, zbp_1, zbp_inj, zbp_01, Bool.true_eq_false, Bool.false_eq_true, true_and, and_true, Decidable.not_not, Classical.not_not, implies_true, List.nil_append, List.cons_append, List.append_assoc, Option.some.injEq, Sum.inl.injEq, zSw_c, zSw_n, zc_0, zc_1]); (try simp only [zi_cs, zi_c0, zii_cs, zii_c0, zl_cs, zl_c0, zll_cs, zll_c0, zr_cs, zr_c0, zrr_cs, zrr_c0, zxs_cs, zxs_c0, zxx_cs, zxx_c0, zfree_c0, zfree_c1, zfree_cs, zfree_cz, zlong_i, zlong_r, zlong_x, zset_0, zset_s, true_and, and_true, Option.some.injEq, Sum.inl.injEq, Sum.inr.injEq, zb2_p, zbp_0, zbp_1, zbp_inj, zbp_01, Nat.zero_add, Nat.reduceAdd, implies_true, List.nil_append, List.cons_append, List.append_assoc, Int.not_lt, Int.not_le, Decidable.not_not, Int.zero_add, Int.reduceLE, Int.reduceLT, Int.reduceEq, Int.reduceNe, Int.reduceAdd, Int.reduceSub, Int.reduceMul, Int.reduceNeg, Int.reduceToNat, Nat.reduceMul, Nat.reduceLT, Nat.reduceEqDiff, and_self, ite_true, ite_false, zx1, zx2, zRecv, List.length_cons, List.length_nil, ne_eq, not_true_eq_false, not_false_eq_true, true_or, or_true, or_false, false_or, and_false, false_and, zf01, zf10, reduceCtorEq, zSw_c, zSw_n, zm_r, zit_T, zit_F, false_implies, true_implies, zc_0, zc_1])
  rw [hC4.2.2.1.1, hn]
  refine zif (fun c => ?_) (fun c => ?_)
  · refine zLoop.up n (fun i ρ μ5 => ρ = [vr 0, vi m, vi (coN (shP Z F A B w) n j + ciN (shP Z F A B w) j i), vi j, vi i] ∧ zfc [325, 326, 327] μ3 μ5 ∧ wK w (μ5 326)) ⟨by rw [ciN, Int.add_zero]; rfl, f4, w4⟩ ?_
    rintro i ρ μ5 hi ⟨rfl, f5, w5⟩
    have hC5 : CTx μ5 Z F B w := hC3.k (fun c hc => f5 c (by simp only [List.mem_cons, List.not_mem_nil, or_false]; omega)) w5
    (try simp only [zit_e, Bool.and_eq_true, Bool.or_eq_true, Bool.not_eq_true', Bool.and_eq_false_iff, Bool.or_eq_false_iff, Bool.not_eq_false', zbe, zdt, zdf, zb2_p, zbp_0, zbp_1, zbp_inj, zbp_01, Bool.true_eq_false, Bool.false_eq_true, true_and, and_true, Decidable.not_not, Classical.not_not, implies_true, List.nil_append, List.cons_append, List.append_assoc, Option.some.injEq, Sum.inl.injEq, zSw_c, zSw_n]); (try simp only [zit_e, Bool.and_eq_true, Bool.or_eq_true, Bool.not_eq_true', Bool.and_eq_false_iff, Bool.or_eq_false_iff, Bool.not_eq_false', zbe, zdt, zdf, zb2_p, zbp_0, zbp_1, zbp_inj, zbp_01, Bool.true_eq_false, Bool.false_eq_true, true_and, and_true, Decidable.not_not, Classical.not_not, implies_true, List.nil_append, List.cons_append, List.append_assoc, Option.some.injEq, Sum.inl.injEq, zSw_c, zSw_n, zc_0, zc_1, zc_324]); (try simp only [zi_cs, zi_c0, zii_cs, zii_c0, zl_cs, zl_c0, zll_cs, zll_c0, zr_cs, zr_c0, zrr_cs, zrr_c0, zxs_cs, zxs_c0, zxx_cs, zxx_c0, zfree_c0, zfree_c1, zfree_cs, zfree_cz, zlong_i, zlong_r, zlong_x, zset_0, zset_s, true_and, and_true, Option.some.injEq, Sum.inl.injEq, Sum.inr.injEq, zb2_p, zbp_0, zbp_1, zbp_inj, zbp_01, Nat.zero_add, Nat.reduceAdd, implies_true, List.nil_append, List.cons_append, List.append_assoc, Int.not_lt, Int.not_le, Decidable.not_not, Int.zero_add, Int.reduceLE, Int.reduceLT, Int.reduceEq, Int.reduceNe, Int.reduceAdd, Int.reduceSub, Int.reduceMul, Int.reduceNeg, Int.reduceToNat, Nat.reduceMul, Nat.reduceLT, Nat.reduceEqDiff, and_self, ite_true, ite_false, zx1, zx2, zRecv, List.length_cons, List.length_nil, ne_eq, not_true_eq_false, not_false_eq_true, true_or, or_true, or_false, false_or, and_false, false_and, zf01, zf10, reduceCtorEq, zSw_c, zSw_n, zm_r, zit_T, zit_F, false_implies, true_implies, zc_0, zc_1, zc_324])
    rw [hC5.2.2.1.1, hn]
    have b1 := coN_in (p := shP Z F A B w) (n := n) (by omega) j
    have b2 := ciN_in (p := shP Z F A B w) (h := j) i
    refine zif (fun c2 => ?_) (fun c2 => ?_)
    · have nx : ∀ {y : Int} {μ6 : zMem}, y = coN (shP Z F A B w) n j + ciN (shP Z F A B w) j (i + 1) → zfc [325, 326, 327] μ3 μ6 → wK w (μ6 326) → zI ((i : Int) + 1) ∧ ∃ m', m' < n - i ∧ ∃ j', m' = n - j' ∧ j' ≤ n ∧ [vr 0, vi m, vi y, vi j, vi ((i : Int) + 1)] = [vr 0, vi m, vi (coN (shP Z F A B w) n j + ciN (shP Z F A B w) j j'), vi j, vi j'] ∧ zfc [325, 326, 327] μ3 μ6 ∧ wK w (μ6 326) := by
        intro y μ6 e1 e2 e3
        exact ⟨by ((try simp only [zI_e]); (first | done | omega | skip)), n - (i + 1), by omega, i + 1, rfl, by omega, by rw [e1]; rfl, e2, e3⟩
      refine zif (fun c3 => ?_) (fun c3 => ?_)
      · refine zCw.use (q_C_depthNow (d := 7) (by decide) hC5 (o := j) (v := i) (by omega) (by omega)) (by omega) (fun q μ6 e => ?_)
        obtain ⟨rfl, hcf⟩ := e
        refine ⟨_, rfl, ?_⟩
        rw [hcf.1 353 (by decide), f5 353 (by decide), hd3 j i (by omega) (by omega) (by omega)]
        have f6 : zfc [325, 326, 327] μ3 μ6 := (f5.tr hcf.1).mo (by simp)
        refine ⟨⟨⟨by ((try simp only [zI_e]); (first | done | omega | skip)), by ((try simp only [zI_e]); (first | done | omega | skip))⟩, by omega, by omega⟩, ?_⟩
        refine zif (fun c4 => ?_) (fun c4 => ?_)
        · exact ⟨by ((try simp only [zI_e]); (first | done | omega | skip)), nx (by rw [ciN, zbt (show shP Z F A B w j i from ⟨by omega, c4⟩)]; omega) f6 hcf.2⟩
        · exact nx (by rw [ciN, zbf (fun q : shP Z F A B w j i => c4 q.2)]; omega) f6 hcf.2
      · exact nx (by rw [ciN, zbf (fun q : shP Z F A B w j i => q.1 (by omega))]; omega) f5 w5
    · have : i = n := by omega
      subst this
      exact ⟨by ((try simp only [zI_e]); (first | done | omega | skip)), znx (by omega) ⟨_, rfl, f5, w5⟩⟩
  · have : j = n := by omega
    subst this
    exact ⟨zc_2.1.1, fin hC4 f4⟩
noncomputable def cdA (Z : Zt) (F : Option (List Cls)) (A : Lg) (w : Int → Int) (x : Int) : Option (List Nat) → Int
  | none => -1
  | some l => zit (0 ≤ x ∧ x ≤ 1) (zit (x = 0) (rlA A l 1000000000 l.length) (coN (shP Z F A (clA l (rlA A l 1000000000 l.length) A l.length) w) Z.1.toNat Z.1.toNat)) (-1)

