/-! the fewest payments: the reference -/
theorem m_Cl_fewestPayments : Cond.instanceMethod y_Cl_fewestPayments.1 ∈ zTb ∧ Cond.selects y_Cl_fewestPayments.1.cls y_Cl_fewestPayments.1 y_Cl_fewestPayments.1 ∈ zTb ∧ Cond.initialized y_Cl_fewestPayments.1.cls ∈ zTb ∧ Cond.code y_Cl_fewestPayments.1 y_Cl_fewestPayments.2.1 y_Cl_fewestPayments.2.2.1 y_Cl_fewestPayments.2.2.2 ∈ zTb ∧ (y_Cl_fewestPayments.1.cls ≠ "java/lang/invoke/MethodHandle" ∧ y_Cl_fewestPayments.1.cls ≠ "java/lang/invoke/VarHandle" ∧ (parseMethodDescriptor y_Cl_fewestPayments.1.desc).map (fun d => d.parameters.length) = some 1) ∧ y_Cl_fewestPayments.2.2.1 ≤ 20 :=
  ⟨(zTb_in 1239 (by decide +kernel) (by decide +kernel)), (zTb_in 1240 (by decide +kernel) (by decide +kernel)), (zTb_in 149 (by decide +kernel) (by decide +kernel)), (zTb_in 1241 (by decide +kernel) (by decide +kernel)), by decide +kernel, by decide +kernel⟩
theorem lv_D_395 : zLv "DebtDoors" 395 y_Cl_fewestPayments 1 0 := ⟨⟨(zTb_in 1238 (by decide +kernel) (by decide +kernel)), m_Cl_fewestPayments.1, m_Cl_fewestPayments.2.1, m_Cl_fewestPayments.2.2⟩, _, rfl, rfl⟩
theorem nk_11_11 : zNk 11 11 = none := rfl
def y_D_payments : zMt := (⟨"DebtDoors", "payments", "()I"⟩, prog_1_method_55_code, 1, some .int)
theorem d_D_payments_0 : decode prog_1_method_55_code 0 = .ok (.aload_n 0, 1) := by decide +kernel
theorem d_D_payments_1 : decode prog_1_method_55_code 1 = .ok (.getfield 79, 3) := by decide +kernel
theorem d_D_payments_4 : decode prog_1_method_55_code 4 = .ok (.aload_n 0, 1) := by decide +kernel
theorem d_D_payments_5 : decode prog_1_method_55_code 5 = .ok (.getfield 12, 3) := by decide +kernel
theorem d_D_payments_8 : decode prog_1_method_55_code 8 = .ok (.invokevirtual 395, 3) := by decide +kernel
theorem d_D_payments_11 : decode prog_1_method_55_code 11 = .ok (.ireturn, 1) := by decide +kernel
def w_D_payments {d : Nat} (hd : 1 ≤ d) := (show SS ("DebtDoors", prog_1_method_55_code, 1) (some .int) d 0 0 0 0 _ from (sRi (xV lv_D_395 (xA (rAr (rAr rA0 (rFr fl_D_79 nk_11_11 (rAn 0 d_D_payments_0 rfl) d_D_payments_1)) (rFr fl_D_12 nk_11_0 (rAn 0 d_D_payments_4 rfl) d_D_payments_5))) (by decide) d_D_payments_8) d_D_payments_11 rfl))
theorem nk_12_46 : zNk 12 46 = none := rfl
theorem m_M_isIn : Cond.static y_M_isIn.1 ∈ zTb ∧ Cond.initialized y_M_isIn.1.cls ∈ zTb ∧ Cond.code y_M_isIn.1 y_M_isIn.2.1 y_M_isIn.2.2.1 y_M_isIn.2.2.2 ∈ zTb ∧ (y_M_isIn.1.cls ≠ "java/lang/invoke/MethodHandle" ∧ y_M_isIn.1.cls ≠ "java/lang/invoke/VarHandle" ∧ (parseMethodDescriptor y_M_isIn.1.desc).map (fun d => d.parameters.length) = some 2) ∧ y_M_isIn.2.2.1 ≤ 20 :=
  ⟨(zTb_in 1927 (by decide +kernel) (by decide +kernel)), (zTb_in 151 (by decide +kernel) (by decide +kernel)), (zTb_in 1928 (by decide +kernel) (by decide +kernel)), by decide +kernel, by decide +kernel⟩
theorem ls_M_406 : zLs "DebtDoorsModel" 406 y_M_isIn 2 := Or.inl ⟨(zTb_in 1926 (by decide +kernel) (by decide +kernel)), m_M_isIn⟩
def y_M_payments : zMt := (⟨"DebtDoorsModel", "payments", "()I"⟩, prog_14_method_129_code, 7, some .int)
theorem d_M_payments_0 : decode prog_14_method_129_code 0 = .ok (.aload_n 0, 1) := by decide +kernel
theorem d_M_payments_1 : decode prog_14_method_129_code 1 = .ok (.invokevirtual 133, 3) := by decide +kernel
theorem d_M_payments_4 : decode prog_14_method_129_code 4 = .ok (.istore_n 1, 1) := by decide +kernel
theorem d_M_payments_5 : decode prog_14_method_129_code 5 = .ok (.iconst 0, 1) := by decide +kernel
theorem d_M_payments_6 : decode prog_14_method_129_code 6 = .ok (.istore_n 2, 1) := by decide +kernel
theorem d_M_payments_7 : decode prog_14_method_129_code 7 = .ok (.iconst 0, 1) := by decide +kernel
theorem d_M_payments_8 : decode prog_14_method_129_code 8 = .ok (.istore_n 3, 1) := by decide +kernel
theorem d_M_payments_9 : decode prog_14_method_129_code 9 = .ok (.iload_n 3, 1) := by decide +kernel
theorem d_M_payments_10 : decode prog_14_method_129_code 10 = .ok (.iload_n 1, 1) := by decide +kernel
theorem d_M_payments_11 : decode prog_14_method_129_code 11 = .ok (.if_icmp .ge 25, 3) := by decide +kernel
theorem d_M_payments_14 : decode prog_14_method_129_code 14 = .ok (.iload_n 2, 1) := by decide +kernel
theorem d_M_payments_15 : decode prog_14_method_129_code 15 = .ok (.aload_n 0, 1) := by decide +kernel
theorem d_M_payments_16 : decode prog_14_method_129_code 16 = .ok (.iload_n 3, 1) := by decide +kernel
theorem d_M_payments_17 : decode prog_14_method_129_code 17 = .ok (.invokevirtual 464, 3) := by decide +kernel
theorem d_M_payments_20 : decode prog_14_method_129_code 20 = .ok (.ifCond .eq 7, 3) := by decide +kernel
theorem d_M_payments_23 : decode prog_14_method_129_code 23 = .ok (.iconst 1, 1) := by decide +kernel
theorem d_M_payments_24 : decode prog_14_method_129_code 24 = .ok (.goto 4, 3) := by decide +kernel
theorem d_M_payments_27 : decode prog_14_method_129_code 27 = .ok (.iconst 0, 1) := by decide +kernel
theorem d_M_payments_28 : decode prog_14_method_129_code 28 = .ok (.iadd, 1) := by decide +kernel
theorem d_M_payments_29 : decode prog_14_method_129_code 29 = .ok (.istore_n 2, 1) := by decide +kernel
theorem d_M_payments_30 : decode prog_14_method_129_code 30 = .ok (.iinc 3 1, 3) := by decide +kernel
theorem d_M_payments_33 : decode prog_14_method_129_code 33 = .ok (.goto (-24), 3) := by decide +kernel
theorem d_M_payments_36 : decode prog_14_method_129_code 36 = .ok (.aload_n 0, 1) := by decide +kernel
theorem d_M_payments_37 : decode prog_14_method_129_code 37 = .ok (.getfield 104, 3) := by decide +kernel
theorem d_M_payments_40 : decode prog_14_method_129_code 40 = .ok (.iconst 0, 1) := by decide +kernel
theorem d_M_payments_41 : decode prog_14_method_129_code 41 = .ok (.iconst 0, 1) := by decide +kernel
theorem d_M_payments_42 : decode prog_14_method_129_code 42 = .ok (.iastore, 1) := by decide +kernel
theorem d_M_payments_43 : decode prog_14_method_129_code 43 = .ok (.iconst 1, 1) := by decide +kernel
theorem d_M_payments_44 : decode prog_14_method_129_code 44 = .ok (.istore_n 3, 1) := by decide +kernel
theorem d_M_payments_45 : decode prog_14_method_129_code 45 = .ok (.iload_n 3, 1) := by decide +kernel
theorem d_M_payments_46 : decode prog_14_method_129_code 46 = .ok (.iconst 1, 1) := by decide +kernel
theorem d_M_payments_47 : decode prog_14_method_129_code 47 = .ok (.iload_n 1, 1) := by decide +kernel
theorem d_M_payments_48 : decode prog_14_method_129_code 48 = .ok (.ishl, 1) := by decide +kernel
theorem d_M_payments_49 : decode prog_14_method_129_code 49 = .ok (.if_icmp .ge 119, 3) := by decide +kernel
theorem d_M_payments_52 : decode prog_14_method_129_code 52 = .ok (.iconst 0, 1) := by decide +kernel
theorem d_M_payments_53 : decode prog_14_method_129_code 53 = .ok (.istore 4, 2) := by decide +kernel
theorem d_M_payments_55 : decode prog_14_method_129_code 55 = .ok (.aload_n 0, 1) := by decide +kernel
theorem d_M_payments_56 : decode prog_14_method_129_code 56 = .ok (.getfield 104, 3) := by decide +kernel
theorem d_M_payments_59 : decode prog_14_method_129_code 59 = .ok (.iload_n 3, 1) := by decide +kernel
theorem d_M_payments_60 : decode prog_14_method_129_code 60 = .ok (.iconst 0, 1) := by decide +kernel
theorem d_M_payments_61 : decode prog_14_method_129_code 61 = .ok (.iastore, 1) := by decide +kernel
theorem d_M_payments_62 : decode prog_14_method_129_code 62 = .ok (.iconst 0, 1) := by decide +kernel
theorem d_M_payments_63 : decode prog_14_method_129_code 63 = .ok (.istore 5, 2) := by decide +kernel
theorem d_M_payments_65 : decode prog_14_method_129_code 65 = .ok (.iload 5, 2) := by decide +kernel
theorem d_M_payments_67 : decode prog_14_method_129_code 67 = .ok (.iload_n 1, 1) := by decide +kernel
theorem d_M_payments_68 : decode prog_14_method_129_code 68 = .ok (.if_icmp .ge 75, 3) := by decide +kernel
theorem d_M_payments_71 : decode prog_14_method_129_code 71 = .ok (.iload_n 3, 1) := by decide +kernel
theorem d_M_payments_72 : decode prog_14_method_129_code 72 = .ok (.iload 5, 2) := by decide +kernel
theorem d_M_payments_74 : decode prog_14_method_129_code 74 = .ok (.invokestatic 406, 3) := by decide +kernel
theorem d_M_payments_77 : decode prog_14_method_129_code 77 = .ok (.ifCond .ne 6, 3) := by decide +kernel
theorem d_M_payments_80 : decode prog_14_method_129_code 80 = .ok (.goto 57, 3) := by decide +kernel
theorem d_M_payments_83 : decode prog_14_method_129_code 83 = .ok (.iload 4, 2) := by decide +kernel
theorem d_M_payments_85 : decode prog_14_method_129_code 85 = .ok (.aload_n 0, 1) := by decide +kernel
theorem d_M_payments_86 : decode prog_14_method_129_code 86 = .ok (.iload 5, 2) := by decide +kernel
theorem d_M_payments_88 : decode prog_14_method_129_code 88 = .ok (.invokevirtual 464, 3) := by decide +kernel
theorem d_M_payments_91 : decode prog_14_method_129_code 91 = .ok (.iadd, 1) := by decide +kernel
theorem d_M_payments_92 : decode prog_14_method_129_code 92 = .ok (.istore 4, 2) := by decide +kernel
theorem d_M_payments_94 : decode prog_14_method_129_code 94 = .ok (.aload_n 0, 1) := by decide +kernel
theorem d_M_payments_95 : decode prog_14_method_129_code 95 = .ok (.getfield 104, 3) := by decide +kernel
theorem d_M_payments_98 : decode prog_14_method_129_code 98 = .ok (.iload_n 3, 1) := by decide +kernel
theorem d_M_payments_99 : decode prog_14_method_129_code 99 = .ok (.iconst 1, 1) := by decide +kernel
theorem d_M_payments_100 : decode prog_14_method_129_code 100 = .ok (.iload 5, 2) := by decide +kernel
theorem d_M_payments_102 : decode prog_14_method_129_code 102 = .ok (.ishl, 1) := by decide +kernel
theorem d_M_payments_103 : decode prog_14_method_129_code 103 = .ok (.iconst (-1), 1) := by decide +kernel
theorem d_M_payments_104 : decode prog_14_method_129_code 104 = .ok (.ixor, 1) := by decide +kernel
theorem d_M_payments_105 : decode prog_14_method_129_code 105 = .ok (.iand, 1) := by decide +kernel
theorem d_M_payments_106 : decode prog_14_method_129_code 106 = .ok (.iaload, 1) := by decide +kernel
theorem d_M_payments_107 : decode prog_14_method_129_code 107 = .ok (.istore 6, 2) := by decide +kernel
theorem d_M_payments_109 : decode prog_14_method_129_code 109 = .ok (.aload_n 0, 1) := by decide +kernel
theorem d_M_payments_110 : decode prog_14_method_129_code 110 = .ok (.getfield 104, 3) := by decide +kernel
theorem d_M_payments_113 : decode prog_14_method_129_code 113 = .ok (.iload_n 3, 1) := by decide +kernel
theorem d_M_payments_114 : decode prog_14_method_129_code 114 = .ok (.iload 6, 2) := by decide +kernel
theorem d_M_payments_116 : decode prog_14_method_129_code 116 = .ok (.aload_n 0, 1) := by decide +kernel
theorem d_M_payments_117 : decode prog_14_method_129_code 117 = .ok (.getfield 104, 3) := by decide +kernel
theorem d_M_payments_120 : decode prog_14_method_129_code 120 = .ok (.iload_n 3, 1) := by decide +kernel
theorem d_M_payments_121 : decode prog_14_method_129_code 121 = .ok (.iaload, 1) := by decide +kernel
theorem d_M_payments_122 : decode prog_14_method_129_code 122 = .ok (.if_icmp .le 8, 3) := by decide +kernel
theorem d_M_payments_125 : decode prog_14_method_129_code 125 = .ok (.iload 6, 2) := by decide +kernel
theorem d_M_payments_127 : decode prog_14_method_129_code 127 = .ok (.goto 9, 3) := by decide +kernel
theorem d_M_payments_130 : decode prog_14_method_129_code 130 = .ok (.aload_n 0, 1) := by decide +kernel
theorem d_M_payments_131 : decode prog_14_method_129_code 131 = .ok (.getfield 104, 3) := by decide +kernel
theorem d_M_payments_134 : decode prog_14_method_129_code 134 = .ok (.iload_n 3, 1) := by decide +kernel
theorem d_M_payments_135 : decode prog_14_method_129_code 135 = .ok (.iaload, 1) := by decide +kernel
theorem d_M_payments_136 : decode prog_14_method_129_code 136 = .ok (.iastore, 1) := by decide +kernel
theorem d_M_payments_137 : decode prog_14_method_129_code 137 = .ok (.iinc 5 1, 3) := by decide +kernel
theorem d_M_payments_140 : decode prog_14_method_129_code 140 = .ok (.goto (-75), 3) := by decide +kernel
theorem d_M_payments_143 : decode prog_14_method_129_code 143 = .ok (.aload_n 0, 1) := by decide +kernel
theorem d_M_payments_144 : decode prog_14_method_129_code 144 = .ok (.getfield 104, 3) := by decide +kernel
theorem d_M_payments_147 : decode prog_14_method_129_code 147 = .ok (.iload_n 3, 1) := by decide +kernel
theorem d_M_payments_148 : decode prog_14_method_129_code 148 = .ok (.dup2, 1) := by decide +kernel
theorem d_M_payments_149 : decode prog_14_method_129_code 149 = .ok (.iaload, 1) := by decide +kernel
theorem d_M_payments_150 : decode prog_14_method_129_code 150 = .ok (.iload 4, 2) := by decide +kernel
theorem d_M_payments_152 : decode prog_14_method_129_code 152 = .ok (.ifCond .ne 7, 3) := by decide +kernel
theorem d_M_payments_155 : decode prog_14_method_129_code 155 = .ok (.iconst 1, 1) := by decide +kernel
theorem d_M_payments_156 : decode prog_14_method_129_code 156 = .ok (.goto 4, 3) := by decide +kernel
theorem d_M_payments_159 : decode prog_14_method_129_code 159 = .ok (.iconst 0, 1) := by decide +kernel
theorem d_M_payments_160 : decode prog_14_method_129_code 160 = .ok (.iadd, 1) := by decide +kernel
theorem d_M_payments_161 : decode prog_14_method_129_code 161 = .ok (.iastore, 1) := by decide +kernel
theorem d_M_payments_162 : decode prog_14_method_129_code 162 = .ok (.iinc 3 1, 3) := by decide +kernel
theorem d_M_payments_165 : decode prog_14_method_129_code 165 = .ok (.goto (-120), 3) := by decide +kernel
theorem d_M_payments_168 : decode prog_14_method_129_code 168 = .ok (.iload_n 1, 1) := by decide +kernel
theorem d_M_payments_169 : decode prog_14_method_129_code 169 = .ok (.iload_n 2, 1) := by decide +kernel
theorem d_M_payments_170 : decode prog_14_method_129_code 170 = .ok (.isub, 1) := by decide +kernel
theorem d_M_payments_171 : decode prog_14_method_129_code 171 = .ok (.istore_n 3, 1) := by decide +kernel
theorem d_M_payments_172 : decode prog_14_method_129_code 172 = .ok (.iload_n 2, 1) := by decide +kernel
theorem d_M_payments_173 : decode prog_14_method_129_code 173 = .ok (.aload_n 0, 1) := by decide +kernel
theorem d_M_payments_174 : decode prog_14_method_129_code 174 = .ok (.getfield 104, 3) := by decide +kernel
theorem d_M_payments_177 : decode prog_14_method_129_code 177 = .ok (.iconst 1, 1) := by decide +kernel
theorem d_M_payments_178 : decode prog_14_method_129_code 178 = .ok (.iload_n 1, 1) := by decide +kernel
theorem d_M_payments_179 : decode prog_14_method_129_code 179 = .ok (.ishl, 1) := by decide +kernel
theorem d_M_payments_180 : decode prog_14_method_129_code 180 = .ok (.iconst 1, 1) := by decide +kernel
theorem d_M_payments_181 : decode prog_14_method_129_code 181 = .ok (.isub, 1) := by decide +kernel
theorem d_M_payments_182 : decode prog_14_method_129_code 182 = .ok (.iaload, 1) := by decide +kernel
theorem d_M_payments_183 : decode prog_14_method_129_code 183 = .ok (.iload_n 3, 1) := by decide +kernel
theorem d_M_payments_184 : decode prog_14_method_129_code 184 = .ok (.isub, 1) := by decide +kernel
theorem d_M_payments_185 : decode prog_14_method_129_code 185 = .ok (.isub, 1) := by decide +kernel
theorem d_M_payments_186 : decode prog_14_method_129_code 186 = .ok (.ireturn, 1) := by decide +kernel
def w_M_payments {d : Nat} (hd : 3 ≤ d) := (show SS ("DebtDoorsModel", prog_14_method_129_code, 7) (some .int) d 0 0 0 0 _ from (sS (p1 := 5) (sIn 1 (xE (rV p_M_people (Nat.le_trans (Nat.le_of_ble_eq_true rfl) hd) lv_M_133 (rAr rA0 (rAn 0 d_M_payments_0 rfl)) (by decide) d_M_payments_1)) d_M_payments_4 rfl (by decide)) (sS (p1 := 7) (sIn 2 (xE (rI d_M_payments_5 rfl)) d_M_payments_6 rfl (by decide)) (sS (p1 := 36) (sS (p1 := 9) (sIn 3 (xE (rI d_M_payments_7 rfl)) d_M_payments_8 rfl (by decide)) (sLp (ps := 30) (tt := 14) (pn := 36) (p1 := 0) (p2 := 0) (xC (rNot (rJ2 (tgt := 36) j_ge (rIn 3 d_M_payments_9 rfl) (rIn 1 d_M_payments_10 rfl) d_M_payments_11 (by decide)))) (sIn 2 (xE (r2 o_add (rIn 2 d_M_payments_14 rfl) (rT2 (rNot (rJ1 (tgt := 27) k_eq (rV p_M_balanceOf (Nat.le_trans (Nat.le_of_ble_eq_true rfl) hd) lv_M_464 (rAi (rAr rA0 (rAn 0 d_M_payments_15 rfl)) (rIn 3 d_M_payments_16 rfl)) (by decide) d_M_payments_17) d_M_payments_20 (by decide))) (rGoE (p2 := 28) (rI d_M_payments_23 rfl) d_M_payments_24 (by decide)) (rI d_M_payments_27 rfl)) d_M_payments_28)) d_M_payments_29 rfl (by decide)) (sGo (pn := 9) (sInc d_M_payments_30 (by decide)) d_M_payments_33 (by decide)))) (sS (p1 := 43) (sAs (rFr fl_M_104 nk_12_46 (rAn 0 d_M_payments_36 rfl) d_M_payments_37) (rI d_M_payments_40 rfl) (xE (rI d_M_payments_41 rfl)) d_M_payments_42) (sS (p1 := 168) (sS (p1 := 45) (sIn 3 (xE (rI d_M_payments_43 rfl)) d_M_payments_44 rfl (by decide)) (sLp (ps := 162) (tt := 52) (pn := 168) (p1 := 0) (p2 := 0) (xC (rNot (rJ2 (tgt := 168) j_ge (rIn 3 d_M_payments_45 rfl) (r2 o_shl (rI d_M_payments_46 rfl) (rIn 1 d_M_payments_47 rfl) d_M_payments_48) d_M_payments_49 (by decide)))) (sS (p1 := 55) (sI (xE (rI d_M_payments_52 rfl)) d_M_payments_53 (by decide)) (sS (p1 := 62) (sAs (rFr fl_M_104 nk_12_46 (rAn 0 d_M_payments_55 rfl) d_M_payments_56) (rIn 3 d_M_payments_59 rfl) (xE (rI d_M_payments_60 rfl)) d_M_payments_61) (sS (p1 := 143) (sS (p1 := 65) (sI (xE (rI d_M_payments_62 rfl)) d_M_payments_63 (by decide)) (sLp (ps := 137) (tt := 71) (pn := 143) (p1 := 0) (p2 := 0) (xC (rNot (rJ2 (tgt := 143) j_ge (rIl d_M_payments_65) (rIn 1 d_M_payments_67 rfl) d_M_payments_68 (by decide)))) (sS (p1 := 83) (sIf (pn := 83) (tt := 137) (xC (rNot (rGf (p2 := 137) (rJ1 (tgt := 83) k_ne (rS p_M_isIn (Nat.le_trans (Nat.le_of_ble_eq_true rfl) hd) ls_M_406 (rAi (rAi rA0 (rIn 3 d_M_payments_71 rfl)) (rIl d_M_payments_72)) (by decide) d_M_payments_74) d_M_payments_77 (by decide)) d_M_payments_80 (by decide)))) sCo0) (sS (p1 := 94) (sI (xE (r2 o_add (rIl d_M_payments_83) (rV p_M_balanceOf (Nat.le_trans (Nat.le_of_ble_eq_true rfl) hd) lv_M_464 (rAi (rAr rA0 (rAn 0 d_M_payments_85 rfl)) (rIl d_M_payments_86)) (by decide) d_M_payments_88) d_M_payments_91)) d_M_payments_92 (by decide)) (sS (p1 := 109) (sI (xE (rIa (rFr fl_M_104 nk_12_46 (rAn 0 d_M_payments_94 rfl) d_M_payments_95) (r2 o_and (rIn 3 d_M_payments_98 rfl) (r2 o_xor (r2 o_shl (rI d_M_payments_99 rfl) (rIl d_M_payments_100) d_M_payments_102) (rI d_M_payments_103 rfl) d_M_payments_104) d_M_payments_105) d_M_payments_106)) d_M_payments_107 (by decide)) (sAs (rFr fl_M_104 nk_12_46 (rAn 0 d_M_payments_109 rfl) d_M_payments_110) (rIn 3 d_M_payments_113 rfl) (xE (rT2 (rNot (rJ2 (tgt := 130) j_le (rIl d_M_payments_114) (rIa (rFr fl_M_104 nk_12_46 (rAn 0 d_M_payments_116 rfl) d_M_payments_117) (rIn 3 d_M_payments_120 rfl) d_M_payments_121) d_M_payments_122 (by decide))) (rGoE (p2 := 136) (rIl d_M_payments_125) d_M_payments_127 (by decide)) (rIa (rFr fl_M_104 nk_12_46 (rAn 0 d_M_payments_130 rfl) d_M_payments_131) (rIn 3 d_M_payments_134 rfl) d_M_payments_135))) d_M_payments_136)))) (sGo (pn := 65) (sInc d_M_payments_137 (by decide)) d_M_payments_140 (by decide)))) (sAo o_add (rFr fl_M_104 nk_12_46 (rAn 0 d_M_payments_143 rfl) d_M_payments_144) (rIn 3 d_M_payments_147 rfl) d_M_payments_148 d_M_payments_149 (rT2 (rNot (rJ1 (tgt := 159) k_ne (rIl d_M_payments_150) d_M_payments_152 (by decide))) (rGoE (p2 := 160) (rI d_M_payments_155 rfl) d_M_payments_156 (by decide)) (rI d_M_payments_159 rfl)) d_M_payments_160 d_M_payments_161)))) (sGo (pn := 45) (sInc d_M_payments_162 (by decide)) d_M_payments_165 (by decide)))) (sS (p1 := 172) (sIn 3 (xE (r2 o_sub (rIn 1 d_M_payments_168 rfl) (rIn 2 d_M_payments_169 rfl) d_M_payments_170)) d_M_payments_171 rfl (by decide)) (sRi (xE (r2 o_sub (rIn 2 d_M_payments_172 rfl) (r2 o_sub (rIa (rFr fl_M_104 nk_12_46 (rAn 0 d_M_payments_173 rfl) d_M_payments_174) (r2 o_sub (r2 o_shl (rI d_M_payments_177 rfl) (rIn 1 d_M_payments_178 rfl) d_M_payments_179) (rI d_M_payments_180 rfl) d_M_payments_181) d_M_payments_182) (rIn 3 d_M_payments_183 rfl) d_M_payments_184) d_M_payments_185)) d_M_payments_186 rfl))))))))
theorem LC_payments : LC y_D_payments y_M_payments [] := LC.tl (f := fun Z F A w => pmA Z A) (fun μ Z F A w h => by
    refine zCw.use (zSp.ss [vr 0] rfl (w_D_payments (d := 100) (by decide)) rfl rfl ?_) (by decide) (fun q μ' e => e)
    (try simp only [zit_e, Bool.and_eq_true, Bool.or_eq_true, Bool.not_eq_true', Bool.and_eq_false_iff, Bool.or_eq_false_iff, Bool.not_eq_false', zbe, zdt, zdf, zb2_p, zbp_0, zbp_1, zbp_inj, zbp_01, Bool.true_eq_false, Bool.false_eq_true, true_and, and_true, Decidable.not_not, Classical.not_not, implies_true, List.nil_append, List.cons_append, List.append_assoc, Option.some.injEq, Sum.inl.injEq, zSw_c, zSw_n]); (try simp only [zit_e, Bool.and_eq_true, Bool.or_eq_true, Bool.not_eq_true', Bool.and_eq_false_iff, Bool.or_eq_false_iff, Bool.not_eq_false', zbe, zdt, zdf, zb2_p, zbp_0, zbp_1, zbp_inj, zbp_01, Bool.true_eq_false, Bool.false_eq_true, true_and, and_true, Decidable.not_not, Classical.not_not, implies_true, List.nil_append, List.cons_append, List.append_assoc, Option.some.injEq, Sum.inl.injEq, zSw_c, zSw_n, zc_0, zc_1, zc_346]); (try simp only [zi_cs, zi_c0, zii_cs, zii_c0, zl_cs, zl_c0, zll_cs, zll_c0, zr_cs, zr_c0, zrr_cs, zrr_c0, zxs_cs, zxs_c0, zxx_cs, zxx_c0, zfree_c0, zfree_c1, zfree_cs, zfree_cz, zlong_i, zlong_r, zlong_x, zset_0, zset_s, true_and, and_true, Option.some.injEq, Sum.inl.injEq, Sum.inr.injEq, zb2_p, zbp_0, zbp_1, zbp_inj, zbp_01, Nat.zero_add, Nat.reduceAdd, implies_true, List.nil_append, List.cons_append, List.append_assoc, Int.not_lt, Int.not_le, Decidable.not_not, Int.zero_add, Int.reduceLE, Int.reduceLT, Int.reduceEq, Int.reduceNe, Int.reduceAdd, Int.reduceSub, Int.reduceMul, Int.reduceNeg, Int.reduceToNat, Nat.reduceMul, Nat.reduceLT, Nat.reduceEqDiff, and_self, ite_true, ite_false, zx1, zx2, zRecv, List.length_cons, List.length_nil, ne_eq, not_true_eq_false, not_false_eq_true, true_or, or_true, or_false, false_or, and_false, false_and, zf01, zf10, reduceCtorEq, zSw_c, zSw_n, zm_r, zit_T, zit_F, false_implies, true_implies, zc_0, zc_1, zc_346])
    refine zCw.use (q_Cl_fewestPayments (d := 3) (by decide) h) (by omega) (fun q μ1 e => ?_)
    exact ⟨_, e.1, rfl, e.2.hm (by simp), e.2.kc (by simp [scC])⟩) (fun μ Z F A w h => by
    have hn := h.1.1
    have e6 := h.2.2.1.1
    refine zCw.use (zSp.ss [vr 355, vx 0, vx 0, vx 0, vx 0, vx 0, vx 0] rfl (w_M_payments (d := 100) (by decide)) rfl rfl ?_) (by decide) (fun q μ' e => e)
    (try simp only [zit_e, Bool.and_eq_true, Bool.or_eq_true, Bool.not_eq_true', Bool.and_eq_false_iff, Bool.or_eq_false_iff, Bool.not_eq_false', zbe, zdt, zdf, zb2_p, zbp_0, zbp_1, zbp_inj, zbp_01, Bool.true_eq_false, Bool.false_eq_true, true_and, and_true, Decidable.not_not, Classical.not_not, implies_true, List.nil_append, List.cons_append, List.append_assoc, Option.some.injEq, Sum.inl.injEq, zSw_c, zSw_n]); (try simp only [zit_e, Bool.and_eq_true, Bool.or_eq_true, Bool.not_eq_true', Bool.and_eq_false_iff, Bool.or_eq_false_iff, Bool.not_eq_false', zbe, zdt, zdf, zb2_p, zbp_0, zbp_1, zbp_inj, zbp_01, Bool.true_eq_false, Bool.false_eq_true, true_and, and_true, Decidable.not_not, Classical.not_not, implies_true, List.nil_append, List.cons_append, List.append_assoc, Option.some.injEq, Sum.inl.injEq, zSw_c, zSw_n, zc_355, f_M_people, g_M_people]); (try simp only [zi_cs, zi_c0, zii_cs, zii_c0, zl_cs, zl_c0, zll_cs, zll_c0, zr_cs, zr_c0, zrr_cs, zrr_c0, zxs_cs, zxs_c0, zxx_cs, zxx_c0, zfree_c0, zfree_c1, zfree_cs, zfree_cz, zlong_i, zlong_r, zlong_x, zset_0, zset_s, true_and, and_true, Option.some.injEq, Sum.inl.injEq, Sum.inr.injEq, zb2_p, zbp_0, zbp_1, zbp_inj, zbp_01, Nat.zero_add, Nat.reduceAdd, implies_true, List.nil_append, List.cons_append, List.append_assoc, Int.not_lt, Int.not_le, Decidable.not_not, Int.zero_add, Int.reduceLE, Int.reduceLT, Int.reduceEq, Int.reduceNe, Int.reduceAdd, Int.reduceSub, Int.reduceMul, Int.reduceNeg, Int.reduceToNat, Nat.reduceMul, Nat.reduceLT, Nat.reduceEqDiff, and_self, ite_true, ite_false, zx1, zx2, zRecv, List.length_cons, List.length_nil, ne_eq, not_true_eq_false, not_false_eq_true, true_or, or_true, or_false, false_or, and_false, false_and, zf01, zf10, reduceCtorEq, zSw_c, zSw_n, zm_r, zit_T, zit_F, false_implies, true_implies, zc_355, f_M_people, g_M_people])
    rw [e6]
    have hb := blA h.2.1
    unfold pmA
    generalize hbb : (fun p => blL p A.2.1) = b
    have hb1 : ∀ p, b p = blL p A.2.1 := fun p => by rw [← hbb]
    have hb2 : ∀ p, -160000 ≤ b p ∧ b p ≤ 160000 := fun p => by rw [hb1]; exact hb p
    refine zLoop.up Z.1.toNat (fun j ρ μ1 => ∃ x4 x5 x6 : zV, ρ = [vr 355, vi Z.1, vi (unB b j), vi j, x4, x5, x6] ∧ μ = μ1) ⟨_, _, _, rfl, rfl⟩ ?_
    rintro j ρ μ1 hj ⟨x4, x5, x6, rfl, rfl⟩
    have hd1 := h.d
    (try simp only [zit_e, Bool.and_eq_true, Bool.or_eq_true, Bool.not_eq_true', Bool.and_eq_false_iff, Bool.or_eq_false_iff, Bool.not_eq_false', zbe, zdt, zdf, zb2_p, zbp_0, zbp_1, zbp_inj, zbp_01, Bool.true_eq_false, Bool.false_eq_true, true_and, and_true, Decidable.not_not, Classical.not_not, implies_true, List.nil_append, List.cons_append, List.append_assoc, Option.some.injEq, Sum.inl.injEq, zSw_c, zSw_n]); (try simp only [zit_e, Bool.and_eq_true, Bool.or_eq_true, Bool.not_eq_true', Bool.and_eq_false_iff, Bool.or_eq_false_iff, Bool.not_eq_false', zbe, zdt, zdf, zb2_p, zbp_0, zbp_1, zbp_inj, zbp_01, Bool.true_eq_false, Bool.false_eq_true, true_and, and_true, Decidable.not_not, Classical.not_not, implies_true, List.nil_append, List.cons_append, List.append_assoc, Option.some.injEq, Sum.inl.injEq, zSw_c, zSw_n, zc_355, f_M_balanceOf, g_M_balanceOf]); (try simp only [zi_cs, zi_c0, zii_cs, zii_c0, zl_cs, zl_c0, zll_cs, zll_c0, zr_cs, zr_c0, zrr_cs, zrr_c0, zxs_cs, zxs_c0, zxx_cs, zxx_c0, zfree_c0, zfree_c1, zfree_cs, zfree_cz, zlong_i, zlong_r, zlong_x, zset_0, zset_s, true_and, and_true, Option.some.injEq, Sum.inl.injEq, Sum.inr.injEq, zb2_p, zbp_0, zbp_1, zbp_inj, zbp_01, Nat.zero_add, Nat.reduceAdd, implies_true, List.nil_append, List.cons_append, List.append_assoc, Int.not_lt, Int.not_le, Decidable.not_not, Int.zero_add, Int.reduceLE, Int.reduceLT, Int.reduceEq, Int.reduceNe, Int.reduceAdd, Int.reduceSub, Int.reduceMul, Int.reduceNeg, Int.reduceToNat, Nat.reduceMul, Nat.reduceLT, Nat.reduceEqDiff, and_self, ite_true, ite_false, zx1, zx2, zRecv, List.length_cons, List.length_nil, ne_eq, not_true_eq_false, not_false_eq_true, true_or, or_true, or_false, false_or, and_false, false_and, zf01, zf10, reduceCtorEq, zSw_c, zSw_n, zm_r, zit_T, zit_F, false_implies, true_implies, zc_355, f_M_balanceOf, g_M_balanceOf])
    rw [hd1.1, ← hb1]
    have hu0 := unB_in (b := b) j
    have hu1 := unB_in (b := b) (j + 1)
    have eu : unB b (j + 1) = unB b j + zit (b j ≠ 0) 1 0 := rfl
    refine zif (fun c => ?_) (fun c => ?_)
    · have hz : unB b (j + 1) = unB b j + zit (¬ b j = 0) 1 0 := rfl
      rw [← hz]
      exact ⟨⟨hd1.2.2.2.1, zI_s (by omega) (by omega)⟩, zI_s (by omega) (by omega), Z.1.toNat - (j + 1), by omega, j + 1, rfl, by omega, _, _, _, rfl⟩
    · have ej : (j : Int) = Z.1 := by omega
      have hsh : zshl 1 Z.1 = ((2 ^ Z.1.toNat : Nat) : Int) := by
        have := zshl_n (k := Z.1.toNat) (by omega)
        rwa [show ((Z.1.toNat : Nat) : Int) = Z.1 by omega] at this
      have hM := p2_7 (n := Z.1.toNat) (by omega)
      generalize hMM : 2 ^ Z.1.toNat = M at *
      generalize hnn : Z.1.toNat = n at *
      rw [show ((M - 1 : Nat) : Int) = (M : Int) - 1 by omega]
      refine zLoop.up (M - 1) (fun s ρ μ2 => ∃ x4 x5 x6 : zV, ρ = [vr 355, vi Z.1, vi (unB b j), vi (s + 1), x4, x5, x6] ∧ (∀ x : Int, 0 ≤ x → x ≤ s → μ2 382 x = gT b n s x) ∧ zfc [382] μ μ2) ⟨_, _, _, rfl, fun x y z => ?_, zfc.rf.zm (by decide)⟩ ?_
      · rw [show x = 0 by omega, zm_s]
        rfl
      rintro s ρ μ2 hs ⟨x4, x5, x6, rfl, hg, hF⟩
      have h1 : MTx μ2 Z F A w := h.k (hF 357 (by decide))
      have hd2 := h1.d
      (try simp only [zit_e, Bool.and_eq_true, Bool.or_eq_true, Bool.not_eq_true', Bool.and_eq_false_iff, Bool.or_eq_false_iff, Bool.not_eq_false', zbe, zdt, zdf, zb2_p, zbp_0, zbp_1, zbp_inj, zbp_01, Bool.true_eq_false, Bool.false_eq_true, true_and, and_true, Decidable.not_not, Classical.not_not, implies_true, List.nil_append, List.cons_append, List.append_assoc, Option.some.injEq, Sum.inl.injEq, zSw_c, zSw_n]); (try simp only [zit_e, Bool.and_eq_true, Bool.or_eq_true, Bool.not_eq_true', Bool.and_eq_false_iff, Bool.or_eq_false_iff, Bool.not_eq_false', zbe, zdt, zdf, zb2_p, zbp_0, zbp_1, zbp_inj, zbp_01, Bool.true_eq_false, Bool.false_eq_true, true_and, and_true, Decidable.not_not, Classical.not_not, implies_true, List.nil_append, List.cons_append, List.append_assoc, Option.some.injEq, Sum.inl.injEq, zSw_c, zSw_n, zc_355, f_M_balanceOf, g_M_balanceOf]); (try simp only [zi_cs, zi_c0, zii_cs, zii_c0, zl_cs, zl_c0, zll_cs, zll_c0, zr_cs, zr_c0, zrr_cs, zrr_c0, zxs_cs, zxs_c0, zxx_cs, zxx_c0, zfree_c0, zfree_c1, zfree_cs, zfree_cz, zlong_i, zlong_r, zlong_x, zset_0, zset_s, true_and, and_true, Option.some.injEq, Sum.inl.injEq, Sum.inr.injEq, zb2_p, zbp_0, zbp_1, zbp_inj, zbp_01, Nat.zero_add, Nat.reduceAdd, implies_true, List.nil_append, List.cons_append, List.append_assoc, Int.not_lt, Int.not_le, Decidable.not_not, Int.zero_add, Int.reduceLE, Int.reduceLT, Int.reduceEq, Int.reduceNe, Int.reduceAdd, Int.reduceSub, Int.reduceMul, Int.reduceNeg, Int.reduceToNat, Nat.reduceMul, Nat.reduceLT, Nat.reduceEqDiff, and_self, ite_true, ite_false, zx1, zx2, zRecv, List.length_cons, List.length_nil, ne_eq, not_true_eq_false, not_false_eq_true, true_or, or_true, or_false, false_or, and_false, false_and, zf01, zf10, reduceCtorEq, zSw_c, zSw_n, zm_r, zit_T, zit_F, false_implies, true_implies, zc_355, f_M_balanceOf, g_M_balanceOf])
      rw [hsh]
      refine zif (fun c1 => ?_) (fun c1 => ?_)
      · refine ⟨by omega, by omega, ?_⟩
        refine zLoop.up n (fun p ρ μ3 => ∃ x6 : zV, ρ = [vr 355, vi Z.1, vi (unB b j), vi (s + 1), vi (smB b ((s : Int) + 1) p), vi p, x6] ∧ (∀ x : Int, 0 ≤ x → x ≤ s → μ3 382 x = gT b n s x) ∧ μ3 382 ((s : Int) + 1) = mxG (gT b n s) ((s : Int) + 1) p ∧ zfc [382] μ μ3) ⟨_, rfl, fun x y z => ?_, ?_, hF.zm (by decide)⟩ ?_
        · rw [zm_o (by omega)]
          exact hg x y z
        · rw [zm_s]
          rfl
        clear hg hF h1 hd2
        rintro p ρ μ3 hp ⟨x6, rfl, hg, hgs, hF⟩
        have h1 : MTx μ3 Z F A w := h.k (hF 357 (by decide))
        have hd2 := h1.d
        (try simp only [zit_e, Bool.and_eq_true, Bool.or_eq_true, Bool.not_eq_true', Bool.and_eq_false_iff, Bool.or_eq_false_iff, Bool.not_eq_false', zbe, zdt, zdf, zb2_p, zbp_0, zbp_1, zbp_inj, zbp_01, Bool.true_eq_false, Bool.false_eq_true, true_and, and_true, Decidable.not_not, Classical.not_not, implies_true, List.nil_append, List.cons_append, List.append_assoc, Option.some.injEq, Sum.inl.injEq, zSw_c, zSw_n]); (try simp only [zit_e, Bool.and_eq_true, Bool.or_eq_true, Bool.not_eq_true', Bool.and_eq_false_iff, Bool.or_eq_false_iff, Bool.not_eq_false', zbe, zdt, zdf, zb2_p, zbp_0, zbp_1, zbp_inj, zbp_01, Bool.true_eq_false, Bool.false_eq_true, true_and, and_true, Decidable.not_not, Classical.not_not, implies_true, List.nil_append, List.cons_append, List.append_assoc, Option.some.injEq, Sum.inl.injEq, zSw_c, zSw_n, zc_355, f_M_balanceOf, g_M_balanceOf, f_M_isIn, g_M_isIn]); (try simp only [zi_cs, zi_c0, zii_cs, zii_c0, zl_cs, zl_c0, zll_cs, zll_c0, zr_cs, zr_c0, zrr_cs, zrr_c0, zxs_cs, zxs_c0, zxx_cs, zxx_c0, zfree_c0, zfree_c1, zfree_cs, zfree_cz, zlong_i, zlong_r, zlong_x, zset_0, zset_s, true_and, and_true, Option.some.injEq, Sum.inl.injEq, Sum.inr.injEq, zb2_p, zbp_0, zbp_1, zbp_inj, zbp_01, Nat.zero_add, Nat.reduceAdd, implies_true, List.nil_append, List.cons_append, List.append_assoc, Int.not_lt, Int.not_le, Decidable.not_not, Int.zero_add, Int.reduceLE, Int.reduceLT, Int.reduceEq, Int.reduceNe, Int.reduceAdd, Int.reduceSub, Int.reduceMul, Int.reduceNeg, Int.reduceToNat, Nat.reduceMul, Nat.reduceLT, Nat.reduceEqDiff, and_self, ite_true, ite_false, zx1, zx2, zRecv, List.length_cons, List.length_nil, ne_eq, not_true_eq_false, not_false_eq_true, true_or, or_true, or_false, false_or, and_false, false_and, zf01, zf10, reduceCtorEq, zSw_c, zSw_n, zm_r, zit_T, zit_F, false_implies, true_implies, zc_355, f_M_balanceOf, g_M_balanceOf, f_M_isIn, g_M_isIn])
        have s1 := smB_in (s := ((s : Int) + 1)) hb2 (p + 1)
        have s0 := smB_in (s := ((s : Int) + 1)) hb2 p
        have m1 := mxG_in (G := gT b n s) (s := ((s : Int) + 1)) (m := s) (by omega) (fun x => gT_in s x) (p + 1)
        have m0 := mxG_in (G := gT b n s) (s := ((s : Int) + 1)) (m := s) (by omega) (fun x => gT_in s x) p
        refine zif (fun c2 => ?_) (fun c2 => ?_)
        · have es : smB b ((s : Int) + 1) (p + 1) = smB b ((s : Int) + 1) p + zit (zbit ((s : Int) + 1) p) (b p) 0 := rfl
          have em : mxG (gT b n s) ((s : Int) + 1) (p + 1) = zit (zbit ((s : Int) + 1) p) (max (mxG (gT b n s) ((s : Int) + 1) p) (gT b n s (((s : Int) + 1) - ((2 ^ p : Nat) : Int)))) (mxG (gT b n s) ((s : Int) + 1) p) := rfl
          have hbp := hb2 p
          rw [hd2.1, ← hb1]
          refine ⟨by ((repeat' apply And.intro) <;> (first | omega | (simp only [zI_e]; omega) | exact True.intro)), ?_⟩
          refine zif (fun c3 => ?_) (fun c3 => ?_)
          all_goals rw [zbp_0] at c3
          · rw [zit_f c3] at es em
            exact ⟨zI_s (by omega) (by omega), n - (p + 1), by omega, p + 1, rfl, by omega, _, by rw [es, Int.add_zero]; rfl, hg, by rw [em]; exact hgs, hF⟩
          · have c3 := Classical.not_not.mp c3
            have hle := zbit_le (by omega) c3
            rw [zandn (by omega) (by omega) (by omega) (by omega) c3, Int.toNat_natCast]
            rw [Int.toNat_natCast] at hle
            rw [zit_t c3] at es em
            rw [hg _ (by omega) (by omega), hgs]
            have emx : zit (mxG (gT b n s) ((s : Int) + 1) p < gT b n s ((s : Int) + 1 - ((2 ^ p : Nat) : Int))) (gT b n s ((s : Int) + 1 - ((2 ^ p : Nat) : Int))) (mxG (gT b n s) ((s : Int) + 1) p) = mxG (gT b n s) ((s : Int) + 1) (p + 1) := by
              rw [em]
              unfold zit
              split <;> omega
            rw [emx]
            refine ⟨⟨hd2.2.2.2.1, zI_s (by omega) (by omega)⟩, by omega, by omega, by omega, ⟨by omega, fun _ => by omega⟩, zI_s (by omega) (by omega), n - (p + 1), by omega, p + 1, rfl, by omega, _, by rw [es]; rfl, fun x y z => ?_, rfl, hF.zm (by decide)⟩
            rw [zit_f (by omega)]
            exact hg x y z
        · have ep : p = n := by omega
          subst ep
          rw [hgs]
          have hz01 : 0 ≤ zit (smB b ((s : Int) + 1) p = 0) 1 0 ∧ zit (smB b ((s : Int) + 1) p = 0) 1 0 ≤ 1 := by
            unfold zit
            split <;> omega
          refine ⟨by omega, by omega, zI_s (by omega) (by omega), zI_s (by omega) (by omega), M - 1 - (s + 1), by omega, s + 1, rfl, by omega, _, _, _, rfl, fun x y z => ?_, hF.zm (by decide)⟩
          by_cases ex : x = (s : Int) + 1
          · rw [zit_t ex, ex, gT_s]
          · rw [zit_f ex, gT_o ex]
            exact hg x y (by omega)
      · have eS : s = M - 1 := by omega
        subst eS
        have hgl := hg ((M : Int) - 1) (by omega) (by omega)
        have hgi := gT_in (b := b) (n := n) (M - 1) ((M : Int) - 1)
        rw [hgl]
        refine ⟨zI_s (by omega) (by omega), ⟨⟨⟨zI_s (by omega) (by omega), by omega, by omega⟩, zI_s (by omega) (by omega)⟩, zI_s (by omega) (by omega)⟩, by omega, hF.hc (by simp), hF.km (by simp [scM]) (fun j _ => by rw [hF 355 (by decide)])⟩)

