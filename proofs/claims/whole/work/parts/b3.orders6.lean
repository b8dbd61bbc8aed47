/-! orders: the reference runs a clause -/
theorem m_M_goesAlong : Cond.instanceMethod y_M_goesAlong.1 ∈ zTb ∧ Cond.selects y_M_goesAlong.1.cls y_M_goesAlong.1 y_M_goesAlong.1 ∈ zTb ∧ Cond.initialized y_M_goesAlong.1.cls ∈ zTb ∧ Cond.code y_M_goesAlong.1 y_M_goesAlong.2.1 y_M_goesAlong.2.2.1 y_M_goesAlong.2.2.2 ∈ zTb ∧ (y_M_goesAlong.1.cls ≠ "java/lang/invoke/MethodHandle" ∧ y_M_goesAlong.1.cls ≠ "java/lang/invoke/VarHandle" ∧ (parseMethodDescriptor y_M_goesAlong.1.desc).map (fun d => d.parameters.length) = some 2) ∧ y_M_goesAlong.2.2.1 ≤ 20 :=
  ⟨(zTb_in 2064 (by decide +kernel) (by decide +kernel)), (List.mem_filter.mpr ⟨List.mem_append_left _ (by decide +kernel), by decide +kernel⟩), (zTb_in 152 (by decide +kernel) (by decide +kernel)), (zTb_in 2065 (by decide +kernel) (by decide +kernel)), by decide +kernel, by decide +kernel⟩
theorem lv_M_497 : zLv "DebtDoorsModel" 497 y_M_goesAlong 2 12 := ⟨⟨(zTb_in 2062 (by decide +kernel) (by decide +kernel)), m_M_goesAlong.1, m_M_goesAlong.2.1, m_M_goesAlong.2.2⟩, _, rfl, rfl⟩
theorem m_M_small : Cond.static y_M_small.1 ∈ zTb ∧ Cond.initialized y_M_small.1.cls ∈ zTb ∧ Cond.code y_M_small.1 y_M_small.2.1 y_M_small.2.2.1 y_M_small.2.2.2 ∈ zTb ∧ (y_M_small.1.cls ≠ "java/lang/invoke/MethodHandle" ∧ y_M_small.1.cls ≠ "java/lang/invoke/VarHandle" ∧ (parseMethodDescriptor y_M_small.1.desc).map (fun d => d.parameters.length) = some 1) ∧ y_M_small.2.2.1 ≤ 20 :=
  ⟨(zTb_in 2067 (by decide +kernel) (by decide +kernel)), (zTb_in 152 (by decide +kernel) (by decide +kernel)), (zTb_in 2068 (by decide +kernel) (by decide +kernel)), by decide +kernel, by decide +kernel⟩
theorem ls_M_501 : zLs "DebtDoorsModel" 501 y_M_small 1 := Or.inl ⟨(zTb_in 2066 (by decide +kernel) (by decide +kernel)), m_M_small⟩
theorem fp_12_49 : zFp 12 49 0 := ⟨_, rfl, rfl, rfl, by decide⟩
theorem fp_12_48 : zFp 12 48 0 := ⟨_, rfl, rfl, rfl, by decide⟩
theorem fp_12_50 : zFp 12 50 0 := ⟨_, rfl, rfl, rfl, by decide⟩
def y_M_runs : zMt := (⟨"DebtDoorsModel", "runs", "(I)I"⟩, prog_14_method_139_code, 6, some .int)
theorem d_M_runs_0 : decode prog_14_method_139_code 0 = .ok (.aload_n 0, 1) := by decide +kernel
theorem d_M_runs_1 : decode prog_14_method_139_code 1 = .ok (.iload_n 1, 1) := by decide +kernel
theorem d_M_runs_2 : decode prog_14_method_139_code 2 = .ok (.iconst 0, 1) := by decide +kernel
theorem d_M_runs_3 : decode prog_14_method_139_code 3 = .ok (.invokevirtual 497, 3) := by decide +kernel
theorem d_M_runs_6 : decode prog_14_method_139_code 6 = .ok (.aload_n 0, 1) := by decide +kernel
theorem d_M_runs_7 : decode prog_14_method_139_code 7 = .ok (.getfield 489, 3) := by decide +kernel
theorem d_M_runs_10 : decode prog_14_method_139_code 10 = .ok (.istore_n 2, 1) := by decide +kernel
theorem d_M_runs_11 : decode prog_14_method_139_code 11 = .ok (.aload_n 0, 1) := by decide +kernel
theorem d_M_runs_12 : decode prog_14_method_139_code 12 = .ok (.getfield 280, 3) := by decide +kernel
theorem d_M_runs_15 : decode prog_14_method_139_code 15 = .ok (.istore_n 3, 1) := by decide +kernel
theorem d_M_runs_16 : decode prog_14_method_139_code 16 = .ok (.iconst 0, 1) := by decide +kernel
theorem d_M_runs_17 : decode prog_14_method_139_code 17 = .ok (.istore 4, 2) := by decide +kernel
theorem d_M_runs_19 : decode prog_14_method_139_code 19 = .ok (.iload 4, 2) := by decide +kernel
theorem d_M_runs_21 : decode prog_14_method_139_code 21 = .ok (.iload_n 2, 1) := by decide +kernel
theorem d_M_runs_22 : decode prog_14_method_139_code 22 = .ok (.if_icmp .ge 160, 3) := by decide +kernel
theorem d_M_runs_25 : decode prog_14_method_139_code 25 = .ok (.aload_n 0, 1) := by decide +kernel
theorem d_M_runs_26 : decode prog_14_method_139_code 26 = .ok (.iload_n 1, 1) := by decide +kernel
theorem d_M_runs_27 : decode prog_14_method_139_code 27 = .ok (.iconst 1, 1) := by decide +kernel
theorem d_M_runs_28 : decode prog_14_method_139_code 28 = .ok (.invokevirtual 497, 3) := by decide +kernel
theorem d_M_runs_31 : decode prog_14_method_139_code 31 = .ok (.aload_n 0, 1) := by decide +kernel
theorem d_M_runs_32 : decode prog_14_method_139_code 32 = .ok (.getfield 492, 3) := by decide +kernel
theorem d_M_runs_35 : decode prog_14_method_139_code 35 = .ok (.ifCond .ne 6, 3) := by decide +kernel
theorem d_M_runs_38 : decode prog_14_method_139_code 38 = .ok (.goto 138, 3) := by decide +kernel
theorem d_M_runs_41 : decode prog_14_method_139_code 41 = .ok (.aload_n 0, 1) := by decide +kernel
theorem d_M_runs_42 : decode prog_14_method_139_code 42 = .ok (.getfield 486, 3) := by decide +kernel
theorem d_M_runs_45 : decode prog_14_method_139_code 45 = .ok (.ifCond .ne 6, 3) := by decide +kernel
theorem d_M_runs_48 : decode prog_14_method_139_code 48 = .ok (.bipush (-3), 2) := by decide +kernel
theorem d_M_runs_50 : decode prog_14_method_139_code 50 = .ok (.ireturn, 1) := by decide +kernel
theorem d_M_runs_51 : decode prog_14_method_139_code 51 = .ok (.aload_n 0, 1) := by decide +kernel
theorem d_M_runs_52 : decode prog_14_method_139_code 52 = .ok (.getfield 483, 3) := by decide +kernel
theorem d_M_runs_55 : decode prog_14_method_139_code 55 = .ok (.bipush 26, 2) := by decide +kernel
theorem d_M_runs_57 : decode prog_14_method_139_code 57 = .ok (.if_icmp .ne 10, 3) := by decide +kernel
theorem d_M_runs_60 : decode prog_14_method_139_code 60 = .ok (.aload_n 0, 1) := by decide +kernel
theorem d_M_runs_61 : decode prog_14_method_139_code 61 = .ok (.invokevirtual 387, 3) := by decide +kernel
theorem d_M_runs_64 : decode prog_14_method_139_code 64 = .ok (.goto 77, 3) := by decide +kernel
theorem d_M_runs_67 : decode prog_14_method_139_code 67 = .ok (.aload_n 0, 1) := by decide +kernel
theorem d_M_runs_68 : decode prog_14_method_139_code 68 = .ok (.getfield 483, 3) := by decide +kernel
theorem d_M_runs_71 : decode prog_14_method_139_code 71 = .ok (.bipush 24, 2) := by decide +kernel
theorem d_M_runs_73 : decode prog_14_method_139_code 73 = .ok (.if_icmp .ne 37, 3) := by decide +kernel
theorem d_M_runs_76 : decode prog_14_method_139_code 76 = .ok (.aload_n 0, 1) := by decide +kernel
theorem d_M_runs_77 : decode prog_14_method_139_code 77 = .ok (.aload_n 0, 1) := by decide +kernel
theorem d_M_runs_78 : decode prog_14_method_139_code 78 = .ok (.getfield 110, 3) := by decide +kernel
theorem d_M_runs_81 : decode prog_14_method_139_code 81 = .ok (.iconst 0, 1) := by decide +kernel
theorem d_M_runs_82 : decode prog_14_method_139_code 82 = .ok (.laload, 1) := by decide +kernel
theorem d_M_runs_83 : decode prog_14_method_139_code 83 = .ok (.invokestatic 501, 3) := by decide +kernel
theorem d_M_runs_86 : decode prog_14_method_139_code 86 = .ok (.aload_n 0, 1) := by decide +kernel
theorem d_M_runs_87 : decode prog_14_method_139_code 87 = .ok (.getfield 110, 3) := by decide +kernel
theorem d_M_runs_90 : decode prog_14_method_139_code 90 = .ok (.iconst 1, 1) := by decide +kernel
theorem d_M_runs_91 : decode prog_14_method_139_code 91 = .ok (.laload, 1) := by decide +kernel
theorem d_M_runs_92 : decode prog_14_method_139_code 92 = .ok (.invokestatic 501, 3) := by decide +kernel
theorem d_M_runs_95 : decode prog_14_method_139_code 95 = .ok (.aload_n 0, 1) := by decide +kernel
theorem d_M_runs_96 : decode prog_14_method_139_code 96 = .ok (.getfield 110, 3) := by decide +kernel
theorem d_M_runs_99 : decode prog_14_method_139_code 99 = .ok (.iconst 2, 1) := by decide +kernel
theorem d_M_runs_100 : decode prog_14_method_139_code 100 = .ok (.laload, 1) := by decide +kernel
theorem d_M_runs_101 : decode prog_14_method_139_code 101 = .ok (.invokestatic 501, 3) := by decide +kernel
theorem d_M_runs_104 : decode prog_14_method_139_code 104 = .ok (.invokevirtual 378, 3) := by decide +kernel
theorem d_M_runs_107 : decode prog_14_method_139_code 107 = .ok (.goto 34, 3) := by decide +kernel
theorem d_M_runs_110 : decode prog_14_method_139_code 110 = .ok (.aload_n 0, 1) := by decide +kernel
theorem d_M_runs_111 : decode prog_14_method_139_code 111 = .ok (.aload_n 0, 1) := by decide +kernel
theorem d_M_runs_112 : decode prog_14_method_139_code 112 = .ok (.getfield 110, 3) := by decide +kernel
theorem d_M_runs_115 : decode prog_14_method_139_code 115 = .ok (.iconst 0, 1) := by decide +kernel
theorem d_M_runs_116 : decode prog_14_method_139_code 116 = .ok (.laload, 1) := by decide +kernel
theorem d_M_runs_117 : decode prog_14_method_139_code 117 = .ok (.invokestatic 501, 3) := by decide +kernel
theorem d_M_runs_120 : decode prog_14_method_139_code 120 = .ok (.aload_n 0, 1) := by decide +kernel
theorem d_M_runs_121 : decode prog_14_method_139_code 121 = .ok (.getfield 110, 3) := by decide +kernel
theorem d_M_runs_124 : decode prog_14_method_139_code 124 = .ok (.iconst 1, 1) := by decide +kernel
theorem d_M_runs_125 : decode prog_14_method_139_code 125 = .ok (.laload, 1) := by decide +kernel
theorem d_M_runs_126 : decode prog_14_method_139_code 126 = .ok (.invokestatic 501, 3) := by decide +kernel
theorem d_M_runs_129 : decode prog_14_method_139_code 129 = .ok (.aload_n 0, 1) := by decide +kernel
theorem d_M_runs_130 : decode prog_14_method_139_code 130 = .ok (.getfield 110, 3) := by decide +kernel
theorem d_M_runs_133 : decode prog_14_method_139_code 133 = .ok (.iconst 2, 1) := by decide +kernel
theorem d_M_runs_134 : decode prog_14_method_139_code 134 = .ok (.laload, 1) := by decide +kernel
theorem d_M_runs_135 : decode prog_14_method_139_code 135 = .ok (.invokestatic 501, 3) := by decide +kernel
theorem d_M_runs_138 : decode prog_14_method_139_code 138 = .ok (.invokevirtual 384, 3) := by decide +kernel
theorem d_M_runs_141 : decode prog_14_method_139_code 141 = .ok (.istore 5, 2) := by decide +kernel
theorem d_M_runs_143 : decode prog_14_method_139_code 143 = .ok (.iload 5, 2) := by decide +kernel
theorem d_M_runs_145 : decode prog_14_method_139_code 145 = .ok (.ifCond .ge 6, 3) := by decide +kernel
theorem d_M_runs_148 : decode prog_14_method_139_code 148 = .ok (.iload 5, 2) := by decide +kernel
theorem d_M_runs_150 : decode prog_14_method_139_code 150 = .ok (.ireturn, 1) := by decide +kernel
theorem d_M_runs_151 : decode prog_14_method_139_code 151 = .ok (.aload_n 0, 1) := by decide +kernel
theorem d_M_runs_152 : decode prog_14_method_139_code 152 = .ok (.getfield 483, 3) := by decide +kernel
theorem d_M_runs_155 : decode prog_14_method_139_code 155 = .ok (.bipush 26, 2) := by decide +kernel
theorem d_M_runs_157 : decode prog_14_method_139_code 157 = .ok (.if_icmp .eq 9, 3) := by decide +kernel
theorem d_M_runs_160 : decode prog_14_method_139_code 160 = .ok (.aload_n 0, 1) := by decide +kernel
theorem d_M_runs_161 : decode prog_14_method_139_code 161 = .ok (.iload 5, 2) := by decide +kernel
theorem d_M_runs_163 : decode prog_14_method_139_code 163 = .ok (.putfield 474, 3) := by decide +kernel
theorem d_M_runs_166 : decode prog_14_method_139_code 166 = .ok (.aload_n 0, 1) := by decide +kernel
theorem d_M_runs_167 : decode prog_14_method_139_code 167 = .ok (.dup, 1) := by decide +kernel
theorem d_M_runs_168 : decode prog_14_method_139_code 168 = .ok (.getfield 471, 3) := by decide +kernel
theorem d_M_runs_171 : decode prog_14_method_139_code 171 = .ok (.iconst 1, 1) := by decide +kernel
theorem d_M_runs_172 : decode prog_14_method_139_code 172 = .ok (.iadd, 1) := by decide +kernel
theorem d_M_runs_173 : decode prog_14_method_139_code 173 = .ok (.putfield 471, 3) := by decide +kernel
theorem d_M_runs_176 : decode prog_14_method_139_code 176 = .ok (.iinc 4 1, 3) := by decide +kernel
theorem d_M_runs_179 : decode prog_14_method_139_code 179 = .ok (.goto (-160), 3) := by decide +kernel
theorem d_M_runs_182 : decode prog_14_method_139_code 182 = .ok (.aload_n 0, 1) := by decide +kernel
theorem d_M_runs_183 : decode prog_14_method_139_code 183 = .ok (.iload_n 3, 1) := by decide +kernel
theorem d_M_runs_184 : decode prog_14_method_139_code 184 = .ok (.putfield 477, 3) := by decide +kernel
theorem d_M_runs_187 : decode prog_14_method_139_code 187 = .ok (.iconst 0, 1) := by decide +kernel
theorem d_M_runs_188 : decode prog_14_method_139_code 188 = .ok (.ireturn, 1) := by decide +kernel
def w_M_runs {d : Nat} (hd : 2 ≤ d) := (show SS ("DebtDoorsModel", prog_14_method_139_code, 6) (some .int) d 0 0 0 0 _ from (sS (p1 := 6) (sV (xVv lv_M_497 (xA (rAi (rAi (rAr rA0 (rAn 0 d_M_runs_0 rfl)) (rIn 1 d_M_runs_1 rfl)) (rI d_M_runs_2 rfl))) (by decide) d_M_runs_3)) (sS (p1 := 11) (sIn 2 (xE (rF 51 fl_M_489 nk_12_51 (rAn 0 d_M_runs_6 rfl) d_M_runs_7 rfl)) d_M_runs_10 rfl (by decide)) (sS (p1 := 16) (sIn 3 (xE (rF 20 fl_M_280 nk_12_20 (rAn 0 d_M_runs_11 rfl) d_M_runs_12 rfl)) d_M_runs_15 rfl (by decide)) (sS (p1 := 182) (sS (p1 := 19) (sI (xE (rI d_M_runs_16 rfl)) d_M_runs_17 (by decide)) (sLp (ps := 176) (tt := 25) (pn := 182) (p1 := 0) (p2 := 0) (xC (rNot (rJ2 (tgt := 182) j_ge (rIl d_M_runs_19) (rIn 2 d_M_runs_21 rfl) d_M_runs_22 (by decide)))) (sS (p1 := 31) (sV (xVv lv_M_497 (xA (rAi (rAi (rAr rA0 (rAn 0 d_M_runs_25 rfl)) (rIn 1 d_M_runs_26 rfl)) (rI d_M_runs_27 rfl))) (by decide) d_M_runs_28)) (sS (p1 := 41) (sIf (pn := 41) (tt := 176) (xC (rNot (rGf (p2 := 176) (rJ1 (tgt := 41) k_ne (rF 54 fl_M_492 nk_12_54 (rAn 0 d_M_runs_31 rfl) d_M_runs_32 rfl) d_M_runs_35 (by decide)) d_M_runs_38 (by decide)))) sCo0) (sS (p1 := 51) (sIf (pn := 51) (tt := 48) (xC (rNot (rJ1 (tgt := 51) k_ne (rF 53 fl_M_486 nk_12_53 (rAn 0 d_M_runs_41 rfl) d_M_runs_42 rfl) d_M_runs_45 (by decide)))) (sRi (xE (rB d_M_runs_48 rfl)) d_M_runs_50 rfl)) (sS (p1 := 143) (sI (xT2 (xC (rNot (rJ2 (tgt := 67) j_ne (rF 52 fl_M_483 nk_12_52 (rAn 0 d_M_runs_51 rfl) d_M_runs_52 rfl) (rB d_M_runs_55 rfl) d_M_runs_57 (by decide)))) (xGoE (p2 := 141) (xV lv_M_387 (xA (rAr rA0 (rAn 0 d_M_runs_60 rfl))) (by decide) d_M_runs_61) d_M_runs_64 (by decide)) (xT2 (xC (rNot (rJ2 (tgt := 110) j_ne (rF 52 fl_M_483 nk_12_52 (rAn 0 d_M_runs_67 rfl) d_M_runs_68 rfl) (rB d_M_runs_71 rfl) d_M_runs_73 (by decide)))) (xGoE (p2 := 141) (xV lv_M_378 (xA (rAi (rAi (rAi (rAr rA0 (rAn 0 d_M_runs_76 rfl)) (rS p_M_small (Nat.le_trans (Nat.le_of_ble_eq_true rfl) hd) ls_M_501 (rAL rA0 (rLa (rFr fl_M_110 nk_12_55 (rAn 0 d_M_runs_77 rfl) d_M_runs_78) (rI d_M_runs_81 rfl) d_M_runs_82)) (by decide) d_M_runs_83)) (rS p_M_small (Nat.le_trans (Nat.le_of_ble_eq_true rfl) hd) ls_M_501 (rAL rA0 (rLa (rFr fl_M_110 nk_12_55 (rAn 0 d_M_runs_86 rfl) d_M_runs_87) (rI d_M_runs_90 rfl) d_M_runs_91)) (by decide) d_M_runs_92)) (rS p_M_small (Nat.le_trans (Nat.le_of_ble_eq_true rfl) hd) ls_M_501 (rAL rA0 (rLa (rFr fl_M_110 nk_12_55 (rAn 0 d_M_runs_95 rfl) d_M_runs_96) (rI d_M_runs_99 rfl) d_M_runs_100)) (by decide) d_M_runs_101))) (by decide) d_M_runs_104) d_M_runs_107 (by decide)) (xV lv_M_384 (xA (rAi (rAi (rAi (rAr rA0 (rAn 0 d_M_runs_110 rfl)) (rS p_M_small (Nat.le_trans (Nat.le_of_ble_eq_true rfl) hd) ls_M_501 (rAL rA0 (rLa (rFr fl_M_110 nk_12_55 (rAn 0 d_M_runs_111 rfl) d_M_runs_112) (rI d_M_runs_115 rfl) d_M_runs_116)) (by decide) d_M_runs_117)) (rS p_M_small (Nat.le_trans (Nat.le_of_ble_eq_true rfl) hd) ls_M_501 (rAL rA0 (rLa (rFr fl_M_110 nk_12_55 (rAn 0 d_M_runs_120 rfl) d_M_runs_121) (rI d_M_runs_124 rfl) d_M_runs_125)) (by decide) d_M_runs_126)) (rS p_M_small (Nat.le_trans (Nat.le_of_ble_eq_true rfl) hd) ls_M_501 (rAL rA0 (rLa (rFr fl_M_110 nk_12_55 (rAn 0 d_M_runs_129 rfl) d_M_runs_130) (rI d_M_runs_133 rfl) d_M_runs_134)) (by decide) d_M_runs_135))) (by decide) d_M_runs_138))) d_M_runs_141 (by decide)) (sS (p1 := 151) (sIf (pn := 151) (tt := 148) (xC (rNot (rJ1 (tgt := 151) k_ge (rIl d_M_runs_143) d_M_runs_145 (by decide)))) (sRi (xE (rIl d_M_runs_148)) d_M_runs_150 rfl)) (sS (p1 := 166) (sIf (pn := 166) (tt := 160) (xC (rNot (rJ2 (tgt := 166) j_eq (rF 52 fl_M_483 nk_12_52 (rAn 0 d_M_runs_151 rfl) d_M_runs_152 rfl) (rB d_M_runs_155 rfl) d_M_runs_157 (by decide)))) (sP 49 fl_M_474 fp_12_49 nk_12_49 (rAn 0 d_M_runs_160 rfl) (xE (rIl d_M_runs_161)) d_M_runs_163 rfl)) (sPo 48 o_add fl_M_471 fp_12_48 nk_12_48 (rAn 0 d_M_runs_166 rfl) d_M_runs_167 d_M_runs_168 (rI d_M_runs_171 rfl) d_M_runs_172 d_M_runs_173 rfl))))))) (sGo (pn := 19) (sInc d_M_runs_176 (by decide)) d_M_runs_179 (by decide)))) (sS (p1 := 187) (sP 50 fl_M_477 fp_12_50 nk_12_50 (rAn 0 d_M_runs_182 rfl) (xE (rIn 3 d_M_runs_183 rfl)) d_M_runs_184 rfl) (sRi (xE (rI d_M_runs_187 rfl)) d_M_runs_188 rfl)))))))
theorem d_M_small_0 : decode prog_14_method_138_code 0 = .ok (.lload_n 0, 1) := by decide +kernel
theorem d_M_small_1 : decode prog_14_method_138_code 1 = .ok (.lconst 0, 1) := by decide +kernel
theorem d_M_small_2 : decode prog_14_method_138_code 2 = .ok (.lcmp, 1) := by decide +kernel
theorem d_M_small_3 : decode prog_14_method_138_code 3 = .ok (.ifCond .lt 11, 3) := by decide +kernel
theorem d_M_small_6 : decode prog_14_method_138_code 6 = .ok (.lload_n 0, 1) := by decide +kernel
theorem d_M_small_7 : decode prog_14_method_138_code 7 = .ok (.ldc2_w 495, 3) := by decide +kernel
theorem d_M_small_10 : decode prog_14_method_138_code 10 = .ok (.lcmp, 1) := by decide +kernel
theorem d_M_small_11 : decode prog_14_method_138_code 11 = .ok (.ifCond .le 7, 3) := by decide +kernel
theorem d_M_small_14 : decode prog_14_method_138_code 14 = .ok (.iconst (-1), 1) := by decide +kernel
theorem d_M_small_15 : decode prog_14_method_138_code 15 = .ok (.goto 5, 3) := by decide +kernel
theorem d_M_small_18 : decode prog_14_method_138_code 18 = .ok (.lload_n 0, 1) := by decide +kernel
theorem d_M_small_19 : decode prog_14_method_138_code 19 = .ok (.l2i, 1) := by decide +kernel
theorem d_M_small_20 : decode prog_14_method_138_code 20 = .ok (.ireturn, 1) := by decide +kernel
def w_M_small {d : Nat} (hd : 1 ≤ d) := (show SS ("DebtDoorsModel", prog_14_method_138_code, 2) (some .int) d 0 0 0 0 _ from (sRi (xE (rT2 (rOr (mm := 6) (rJ1 (tgt := 14) k_lt (rCmp (rLn 0 d_M_small_0 rfl) (rLc0 d_M_small_1) d_M_small_2) d_M_small_3 (by decide)) (rNot (rJ1 (tgt := 18) k_le (rCmp (rLn 0 d_M_small_6 rfl) (rL2 kl_M_495 d_M_small_7 rfl) d_M_small_10) d_M_small_11 (by decide)))) (rGoE (p2 := 20) (rI d_M_small_14 rfl) d_M_small_15 (by decide)) (rL2I (rLn 0 d_M_small_18 rfl) d_M_small_19))) d_M_small_20 rfl))
noncomputable def f_M_small : List zV → zMem → Int
  | [.inr (.inl L0)], μ => zit (L0 < 0 ∨ 1000000 < L0) (-1) L0
  | _, _ => 0
def g_M_small : List zV → zMem → Prop
  | [.inr (.inl L0)], μ => (-1000000000 ≤ L0 ∧ L0 ≤ 1000000000)
  | _, _ => False
theorem p_M_small : zPu y_M_small 1 f_M_small g_M_small := by
  intro as μ h
  unfold g_M_small at h
  split at h
  · next L0 =>
    refine zSp.ss [vl L0, vx 0] rfl (w_M_small (Nat.le_refl _)) rfl rfl ?_
    (try simp only [zit_e, Bool.and_eq_true, Bool.or_eq_true, Bool.not_eq_true', Bool.and_eq_false_iff, Bool.or_eq_false_iff, Bool.not_eq_false', zbe, zdt, zdf, zb2_p, zbp_0, zbp_1, zbp_inj, zbp_01, Bool.true_eq_false, Bool.false_eq_true, true_and, and_true, Decidable.not_not, Classical.not_not, implies_true, List.nil_append, List.cons_append, List.append_assoc, Option.some.injEq, Sum.inl.injEq, zSw_c, zSw_n]); (try simp only [zit_e, Bool.and_eq_true, Bool.or_eq_true, Bool.not_eq_true', Bool.and_eq_false_iff, Bool.or_eq_false_iff, Bool.not_eq_false', zbe, zdt, zdf, zb2_p, zbp_0, zbp_1, zbp_inj, zbp_01, Bool.true_eq_false, Bool.false_eq_true, true_and, and_true, Decidable.not_not, Classical.not_not, implies_true, List.nil_append, List.cons_append, List.append_assoc, Option.some.injEq, Sum.inl.injEq, zSw_c, zSw_n, f_M_small]); (try simp only [zi_cs, zi_c0, zii_cs, zii_c0, zl_cs, zl_c0, zll_cs, zll_c0, zr_cs, zr_c0, zrr_cs, zrr_c0, zxs_cs, zxs_c0, zxx_cs, zxx_c0, zfree_c0, zfree_c1, zfree_cs, zfree_cz, zlong_i, zlong_r, zlong_x, zset_0, zset_s, true_and, and_true, Option.some.injEq, Sum.inl.injEq, Sum.inr.injEq, zb2_p, zbp_0, zbp_1, zbp_inj, zbp_01, Nat.zero_add, Nat.reduceAdd, implies_true, List.nil_append, List.cons_append, List.append_assoc, Int.not_lt, Int.not_le, Decidable.not_not, Int.zero_add, Int.reduceLE, Int.reduceLT, Int.reduceEq, Int.reduceNe, Int.reduceAdd, Int.reduceSub, Int.reduceMul, Int.reduceNeg, Int.reduceToNat, Nat.reduceMul, Nat.reduceLT, Nat.reduceEqDiff, and_self, ite_true, ite_false, zx1, zx2, zRecv, List.length_cons, List.length_nil, ne_eq, not_true_eq_false, not_false_eq_true, true_or, or_true, or_false, false_or, and_false, false_and, zf01, zf10, reduceCtorEq, zSw_c, zSw_n, zm_r, zit_T, zit_F, false_implies, true_implies, f_M_small])
    done
  · exact h.elim
theorem q_M_runs {d : Nat} (hd : 54 ≤ d) {μ : zMem} {Z : Zt} {F : Option (List Cls)} {x : OrS} {Q : zTk} {t l w0 t1 l1 n : Nat} {cl : Cls} {cd : List Int} (hM : MTx μ Z F x.1 x.2.2.2.2) (hQ : okK Q) (hL : LwM (μ 357) 6 Q) (hg : μ 355 50 = 2400 + (t : Int)) (hp : pOrdC Q.1 Q.2.1 t l w0 = (t1, some (l1, cl, cd))) (hl : l ≤ 50) (hx : okO2 n x) (hn : n ≤ 1000) : zSp d 0 0 y_M_runs zT0 [vr 355, vi (2400 + (Q.2.2.2 : Int))] μ zT0 (fun r μ' => r = none) := by
  refine zSp.ss [vr 355, vi (2400 + (Q.2.2.2 : Int)), vx 0, vx 0, vx 0, vx 0] rfl (w_M_runs (Nat.le_trans (by decide) hd)) rfl rfl ?_
  (try simp only [zit_e, Bool.and_eq_true, Bool.or_eq_true, Bool.not_eq_true', Bool.and_eq_false_iff, Bool.or_eq_false_iff, Bool.not_eq_false', zbe, zdt, zdf, zb2_p, zbp_0, zbp_1, zbp_inj, zbp_01, Bool.true_eq_false, Bool.false_eq_true, true_and, and_true, Decidable.not_not, Classical.not_not, implies_true, List.nil_append, List.cons_append, List.append_assoc, Option.some.injEq, Sum.inl.injEq, zSw_c, zSw_n]); (try simp only [zit_e, Bool.and_eq_true, Bool.or_eq_true, Bool.not_eq_true', Bool.and_eq_false_iff, Bool.or_eq_false_iff, Bool.not_eq_false', zbe, zdt, zdf, zb2_p, zbp_0, zbp_1, zbp_inj, zbp_01, Bool.true_eq_false, Bool.false_eq_true, true_and, and_true, Decidable.not_not, Classical.not_not, implies_true, List.nil_append, List.cons_append, List.append_assoc, Option.some.injEq, Sum.inl.injEq, zSw_c, zSw_n, zc_355]); (try simp only [zi_cs, zi_c0, zii_cs, zii_c0, zl_cs, zl_c0, zll_cs, zll_c0, zr_cs, zr_c0, zrr_cs, zrr_c0, zxs_cs, zxs_c0, zxx_cs, zxx_c0, zfree_c0, zfree_c1, zfree_cs, zfree_cz, zlong_i, zlong_r, zlong_x, zset_0, zset_s, true_and, and_true, Option.some.injEq, Sum.inl.injEq, Sum.inr.injEq, zb2_p, zbp_0, zbp_1, zbp_inj, zbp_01, Nat.zero_add, Nat.reduceAdd, implies_true, List.nil_append, List.cons_append, List.append_assoc, Int.not_lt, Int.not_le, Decidable.not_not, Int.zero_add, Int.reduceLE, Int.reduceLT, Int.reduceEq, Int.reduceNe, Int.reduceAdd, Int.reduceSub, Int.reduceMul, Int.reduceNeg, Int.reduceToNat, Nat.reduceMul, Nat.reduceLT, Nat.reduceEqDiff, and_self, ite_true, ite_false, zx1, zx2, zRecv, List.length_cons, List.length_nil, ne_eq, not_true_eq_false, not_false_eq_true, true_or, or_true, or_false, false_or, and_false, false_and, zf01, zf10, reduceCtorEq, zSw_c, zSw_n, zm_r, zit_T, zit_F, false_implies, true_implies, zc_355])
  done

