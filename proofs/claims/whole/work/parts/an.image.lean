/-! a town is copied -/
theorem lv_To_40 : zLv "DebtDoors$Town" 40 y_Le_copyFrom 1 1 := ⟨⟨(zTb_in 1318 (by decide +kernel) (by decide +kernel)), m_Le_copyFrom.1, m_Le_copyFrom.2.1, m_Le_copyFrom.2.2⟩, _, rfl, rfl⟩
theorem ka_To_44 : Cond.methodLink "DebtDoors$Town" 44 arraycopyName ∈ zTb := (zTb_in 1319 (by decide +kernel) (by decide +kernel))
theorem fl_To_53 : zFl "DebtDoors$Town" 53 9 7 := ⟨_, rfl, by decide, (zTb_in 252 (by decide +kernel) (by decide +kernel)), rfl⟩
theorem fl_To_56 : zFl "DebtDoors$Town" 56 9 8 := ⟨_, rfl, by decide, (zTb_in 256 (by decide +kernel) (by decide +kernel)), rfl⟩
theorem fl_To_59 : zFl "DebtDoors$Town" 59 9 9 := ⟨_, rfl, by decide, (zTb_in 259 (by decide +kernel) (by decide +kernel)), rfl⟩
theorem fl_To_62 : zFl "DebtDoors$Town" 62 9 10 := ⟨_, rfl, by decide, (zTb_in 261 (by decide +kernel) (by decide +kernel)), rfl⟩
def y_To_copyFrom : zMt := (⟨"DebtDoors$Town", "copyFrom", "(LDebtDoors$Town;)V"⟩, prog_11_method_2_code, 3, none)
theorem d_To_copyFrom_0 : decode prog_11_method_2_code 0 = .ok (.aload_n 0, 1) := by decide +kernel
theorem d_To_copyFrom_1 : decode prog_11_method_2_code 1 = .ok (.getfield 12, 3) := by decide +kernel
theorem d_To_copyFrom_4 : decode prog_11_method_2_code 4 = .ok (.aload_n 1, 1) := by decide +kernel
theorem d_To_copyFrom_5 : decode prog_11_method_2_code 5 = .ok (.getfield 12, 3) := by decide +kernel
theorem d_To_copyFrom_8 : decode prog_11_method_2_code 8 = .ok (.invokevirtual 40, 3) := by decide +kernel
theorem d_To_copyFrom_11 : decode prog_11_method_2_code 11 = .ok (.aload_n 1, 1) := by decide +kernel
theorem d_To_copyFrom_12 : decode prog_11_method_2_code 12 = .ok (.getfield 18, 3) := by decide +kernel
theorem d_To_copyFrom_15 : decode prog_11_method_2_code 15 = .ok (.iconst 0, 1) := by decide +kernel
theorem d_To_copyFrom_16 : decode prog_11_method_2_code 16 = .ok (.aload_n 0, 1) := by decide +kernel
theorem d_To_copyFrom_17 : decode prog_11_method_2_code 17 = .ok (.getfield 18, 3) := by decide +kernel
theorem d_To_copyFrom_20 : decode prog_11_method_2_code 20 = .ok (.iconst 0, 1) := by decide +kernel
theorem d_To_copyFrom_21 : decode prog_11_method_2_code 21 = .ok (.bipush 7, 2) := by decide +kernel
theorem d_To_copyFrom_23 : decode prog_11_method_2_code 23 = .ok (.invokestatic 44, 3) := by decide +kernel
theorem d_To_copyFrom_26 : decode prog_11_method_2_code 26 = .ok (.aload_n 1, 1) := by decide +kernel
theorem d_To_copyFrom_27 : decode prog_11_method_2_code 27 = .ok (.getfield 22, 3) := by decide +kernel
theorem d_To_copyFrom_30 : decode prog_11_method_2_code 30 = .ok (.iconst 0, 1) := by decide +kernel
theorem d_To_copyFrom_31 : decode prog_11_method_2_code 31 = .ok (.aload_n 0, 1) := by decide +kernel
theorem d_To_copyFrom_32 : decode prog_11_method_2_code 32 = .ok (.getfield 22, 3) := by decide +kernel
theorem d_To_copyFrom_35 : decode prog_11_method_2_code 35 = .ok (.iconst 0, 1) := by decide +kernel
theorem d_To_copyFrom_36 : decode prog_11_method_2_code 36 = .ok (.bipush 7, 2) := by decide +kernel
theorem d_To_copyFrom_38 : decode prog_11_method_2_code 38 = .ok (.invokestatic 44, 3) := by decide +kernel
theorem d_To_copyFrom_41 : decode prog_11_method_2_code 41 = .ok (.iconst 0, 1) := by decide +kernel
theorem d_To_copyFrom_42 : decode prog_11_method_2_code 42 = .ok (.istore_n 2, 1) := by decide +kernel
theorem d_To_copyFrom_43 : decode prog_11_method_2_code 43 = .ok (.iload_n 2, 1) := by decide +kernel
theorem d_To_copyFrom_44 : decode prog_11_method_2_code 44 = .ok (.bipush 8, 2) := by decide +kernel
theorem d_To_copyFrom_46 : decode prog_11_method_2_code 46 = .ok (.if_icmp .ge 45, 3) := by decide +kernel
theorem d_To_copyFrom_49 : decode prog_11_method_2_code 49 = .ok (.aload_n 1, 1) := by decide +kernel
theorem d_To_copyFrom_50 : decode prog_11_method_2_code 50 = .ok (.getfield 27, 3) := by decide +kernel
theorem d_To_copyFrom_53 : decode prog_11_method_2_code 53 = .ok (.iload_n 2, 1) := by decide +kernel
theorem d_To_copyFrom_54 : decode prog_11_method_2_code 54 = .ok (.aaload, 1) := by decide +kernel
theorem d_To_copyFrom_55 : decode prog_11_method_2_code 55 = .ok (.iconst 0, 1) := by decide +kernel
theorem d_To_copyFrom_56 : decode prog_11_method_2_code 56 = .ok (.aload_n 0, 1) := by decide +kernel
theorem d_To_copyFrom_57 : decode prog_11_method_2_code 57 = .ok (.getfield 27, 3) := by decide +kernel
theorem d_To_copyFrom_60 : decode prog_11_method_2_code 60 = .ok (.iload_n 2, 1) := by decide +kernel
theorem d_To_copyFrom_61 : decode prog_11_method_2_code 61 = .ok (.aaload, 1) := by decide +kernel
theorem d_To_copyFrom_62 : decode prog_11_method_2_code 62 = .ok (.iconst 0, 1) := by decide +kernel
theorem d_To_copyFrom_63 : decode prog_11_method_2_code 63 = .ok (.iconst 4, 1) := by decide +kernel
theorem d_To_copyFrom_64 : decode prog_11_method_2_code 64 = .ok (.invokestatic 44, 3) := by decide +kernel
theorem d_To_copyFrom_67 : decode prog_11_method_2_code 67 = .ok (.aload_n 1, 1) := by decide +kernel
theorem d_To_copyFrom_68 : decode prog_11_method_2_code 68 = .ok (.getfield 30, 3) := by decide +kernel
theorem d_To_copyFrom_71 : decode prog_11_method_2_code 71 = .ok (.iload_n 2, 1) := by decide +kernel
theorem d_To_copyFrom_72 : decode prog_11_method_2_code 72 = .ok (.aaload, 1) := by decide +kernel
theorem d_To_copyFrom_73 : decode prog_11_method_2_code 73 = .ok (.iconst 0, 1) := by decide +kernel
theorem d_To_copyFrom_74 : decode prog_11_method_2_code 74 = .ok (.aload_n 0, 1) := by decide +kernel
theorem d_To_copyFrom_75 : decode prog_11_method_2_code 75 = .ok (.getfield 30, 3) := by decide +kernel
theorem d_To_copyFrom_78 : decode prog_11_method_2_code 78 = .ok (.iload_n 2, 1) := by decide +kernel
theorem d_To_copyFrom_79 : decode prog_11_method_2_code 79 = .ok (.aaload, 1) := by decide +kernel
theorem d_To_copyFrom_80 : decode prog_11_method_2_code 80 = .ok (.iconst 0, 1) := by decide +kernel
theorem d_To_copyFrom_81 : decode prog_11_method_2_code 81 = .ok (.iconst 4, 1) := by decide +kernel
theorem d_To_copyFrom_82 : decode prog_11_method_2_code 82 = .ok (.invokestatic 44, 3) := by decide +kernel
theorem d_To_copyFrom_85 : decode prog_11_method_2_code 85 = .ok (.iinc 2 1, 3) := by decide +kernel
theorem d_To_copyFrom_88 : decode prog_11_method_2_code 88 = .ok (.goto (-45), 3) := by decide +kernel
theorem d_To_copyFrom_91 : decode prog_11_method_2_code 91 = .ok (.iconst 0, 1) := by decide +kernel
theorem d_To_copyFrom_92 : decode prog_11_method_2_code 92 = .ok (.istore_n 2, 1) := by decide +kernel
theorem d_To_copyFrom_93 : decode prog_11_method_2_code 93 = .ok (.iload_n 2, 1) := by decide +kernel
theorem d_To_copyFrom_94 : decode prog_11_method_2_code 94 = .ok (.bipush 6, 2) := by decide +kernel
theorem d_To_copyFrom_96 : decode prog_11_method_2_code 96 = .ok (.if_icmp .ge 29, 3) := by decide +kernel
theorem d_To_copyFrom_99 : decode prog_11_method_2_code 99 = .ok (.aload_n 1, 1) := by decide +kernel
theorem d_To_copyFrom_100 : decode prog_11_method_2_code 100 = .ok (.getfield 33, 3) := by decide +kernel
theorem d_To_copyFrom_103 : decode prog_11_method_2_code 103 = .ok (.iload_n 2, 1) := by decide +kernel
theorem d_To_copyFrom_104 : decode prog_11_method_2_code 104 = .ok (.aaload, 1) := by decide +kernel
theorem d_To_copyFrom_105 : decode prog_11_method_2_code 105 = .ok (.iconst 0, 1) := by decide +kernel
theorem d_To_copyFrom_106 : decode prog_11_method_2_code 106 = .ok (.aload_n 0, 1) := by decide +kernel
theorem d_To_copyFrom_107 : decode prog_11_method_2_code 107 = .ok (.getfield 33, 3) := by decide +kernel
theorem d_To_copyFrom_110 : decode prog_11_method_2_code 110 = .ok (.iload_n 2, 1) := by decide +kernel
theorem d_To_copyFrom_111 : decode prog_11_method_2_code 111 = .ok (.aaload, 1) := by decide +kernel
theorem d_To_copyFrom_112 : decode prog_11_method_2_code 112 = .ok (.iconst 0, 1) := by decide +kernel
theorem d_To_copyFrom_113 : decode prog_11_method_2_code 113 = .ok (.sipush 385, 3) := by decide +kernel
theorem d_To_copyFrom_116 : decode prog_11_method_2_code 116 = .ok (.invokestatic 44, 3) := by decide +kernel
theorem d_To_copyFrom_119 : decode prog_11_method_2_code 119 = .ok (.iinc 2 1, 3) := by decide +kernel
theorem d_To_copyFrom_122 : decode prog_11_method_2_code 122 = .ok (.goto (-29), 3) := by decide +kernel
theorem d_To_copyFrom_125 : decode prog_11_method_2_code 125 = .ok (.aload_n 0, 1) := by decide +kernel
theorem d_To_copyFrom_126 : decode prog_11_method_2_code 126 = .ok (.aload_n 1, 1) := by decide +kernel
theorem d_To_copyFrom_127 : decode prog_11_method_2_code 127 = .ok (.getfield 50, 3) := by decide +kernel
theorem d_To_copyFrom_130 : decode prog_11_method_2_code 130 = .ok (.putfield 50, 3) := by decide +kernel
theorem d_To_copyFrom_133 : decode prog_11_method_2_code 133 = .ok (.aload_n 0, 1) := by decide +kernel
theorem d_To_copyFrom_134 : decode prog_11_method_2_code 134 = .ok (.aload_n 1, 1) := by decide +kernel
theorem d_To_copyFrom_135 : decode prog_11_method_2_code 135 = .ok (.getfield 53, 3) := by decide +kernel
theorem d_To_copyFrom_138 : decode prog_11_method_2_code 138 = .ok (.putfield 53, 3) := by decide +kernel
theorem d_To_copyFrom_141 : decode prog_11_method_2_code 141 = .ok (.aload_n 0, 1) := by decide +kernel
theorem d_To_copyFrom_142 : decode prog_11_method_2_code 142 = .ok (.aload_n 1, 1) := by decide +kernel
theorem d_To_copyFrom_143 : decode prog_11_method_2_code 143 = .ok (.getfield 56, 3) := by decide +kernel
theorem d_To_copyFrom_146 : decode prog_11_method_2_code 146 = .ok (.putfield 56, 3) := by decide +kernel
theorem d_To_copyFrom_149 : decode prog_11_method_2_code 149 = .ok (.aload_n 0, 1) := by decide +kernel
theorem d_To_copyFrom_150 : decode prog_11_method_2_code 150 = .ok (.aload_n 1, 1) := by decide +kernel
theorem d_To_copyFrom_151 : decode prog_11_method_2_code 151 = .ok (.getfield 59, 3) := by decide +kernel
theorem d_To_copyFrom_154 : decode prog_11_method_2_code 154 = .ok (.putfield 59, 3) := by decide +kernel
theorem d_To_copyFrom_157 : decode prog_11_method_2_code 157 = .ok (.aload_n 0, 1) := by decide +kernel
theorem d_To_copyFrom_158 : decode prog_11_method_2_code 158 = .ok (.aload_n 1, 1) := by decide +kernel
theorem d_To_copyFrom_159 : decode prog_11_method_2_code 159 = .ok (.getfield 62, 3) := by decide +kernel
theorem d_To_copyFrom_162 : decode prog_11_method_2_code 162 = .ok (.putfield 62, 3) := by decide +kernel
theorem d_To_copyFrom_165 : decode prog_11_method_2_code 165 = .ok (.aload_n 0, 1) := by decide +kernel
theorem d_To_copyFrom_166 : decode prog_11_method_2_code 166 = .ok (.aload_n 1, 1) := by decide +kernel
theorem d_To_copyFrom_167 : decode prog_11_method_2_code 167 = .ok (.getfield 36, 3) := by decide +kernel
theorem d_To_copyFrom_170 : decode prog_11_method_2_code 170 = .ok (.putfield 36, 3) := by decide +kernel
theorem d_To_copyFrom_173 : decode prog_11_method_2_code 173 = .ok (.return_, 1) := by decide +kernel
def w_To_copyFrom {d : Nat} (hd : 3 ≤ d) := (show SS ("DebtDoors$Town", prog_11_method_2_code, 3) (none) d 0 0 0 0 _ from (sS (p1 := 11) (sV (xVv lv_To_40 (xA (rAr (rAr rA0 (rFr fl_To_12 nk_9_0 (rAn 0 d_To_copyFrom_0 rfl) d_To_copyFrom_1)) (rFr fl_To_12 nk_9_0 (rAn 1 d_To_copyFrom_4 rfl) d_To_copyFrom_5))) (by decide) d_To_copyFrom_8)) (sS (p1 := 26) (sCp ka_To_44 (rFr fl_To_18 nk_9_1 (rAn 1 d_To_copyFrom_11 rfl) d_To_copyFrom_12) (rI d_To_copyFrom_15 rfl) (rFr fl_To_18 nk_9_1 (rAn 0 d_To_copyFrom_16 rfl) d_To_copyFrom_17) (rI d_To_copyFrom_20 rfl) (rB d_To_copyFrom_21 rfl) (Nat.le_trans (Nat.le_of_ble_eq_true rfl) hd) d_To_copyFrom_23) (sS (p1 := 41) (sCp ka_To_44 (rFr fl_To_22 nk_9_2 (rAn 1 d_To_copyFrom_26 rfl) d_To_copyFrom_27) (rI d_To_copyFrom_30 rfl) (rFr fl_To_22 nk_9_2 (rAn 0 d_To_copyFrom_31 rfl) d_To_copyFrom_32) (rI d_To_copyFrom_35 rfl) (rB d_To_copyFrom_36 rfl) (Nat.le_trans (Nat.le_of_ble_eq_true rfl) hd) d_To_copyFrom_38) (sS (p1 := 91) (sS (p1 := 43) (sIn 2 (xE (rI d_To_copyFrom_41 rfl)) d_To_copyFrom_42 rfl (by decide)) (sLp (ps := 85) (tt := 49) (pn := 91) (p1 := 0) (p2 := 0) (xC (rNot (rJ2 (tgt := 91) j_ge (rIn 2 d_To_copyFrom_43 rfl) (rB d_To_copyFrom_44 rfl) d_To_copyFrom_46 (by decide)))) (sS (p1 := 67) (sCp ka_To_44 (rAa (rFr fl_To_27 nk_9_3 (rAn 1 d_To_copyFrom_49 rfl) d_To_copyFrom_50) (rIn 2 d_To_copyFrom_53 rfl) d_To_copyFrom_54) (rI d_To_copyFrom_55 rfl) (rAa (rFr fl_To_27 nk_9_3 (rAn 0 d_To_copyFrom_56 rfl) d_To_copyFrom_57) (rIn 2 d_To_copyFrom_60 rfl) d_To_copyFrom_61) (rI d_To_copyFrom_62 rfl) (rI d_To_copyFrom_63 rfl) (Nat.le_trans (Nat.le_of_ble_eq_true rfl) hd) d_To_copyFrom_64) (sCp ka_To_44 (rAa (rFr fl_To_30 nk_9_4 (rAn 1 d_To_copyFrom_67 rfl) d_To_copyFrom_68) (rIn 2 d_To_copyFrom_71 rfl) d_To_copyFrom_72) (rI d_To_copyFrom_73 rfl) (rAa (rFr fl_To_30 nk_9_4 (rAn 0 d_To_copyFrom_74 rfl) d_To_copyFrom_75) (rIn 2 d_To_copyFrom_78 rfl) d_To_copyFrom_79) (rI d_To_copyFrom_80 rfl) (rI d_To_copyFrom_81 rfl) (Nat.le_trans (Nat.le_of_ble_eq_true rfl) hd) d_To_copyFrom_82)) (sGo (pn := 43) (sInc d_To_copyFrom_85 (by decide)) d_To_copyFrom_88 (by decide)))) (sS (p1 := 125) (sS (p1 := 93) (sIn 2 (xE (rI d_To_copyFrom_91 rfl)) d_To_copyFrom_92 rfl (by decide)) (sLp (ps := 119) (tt := 99) (pn := 125) (p1 := 0) (p2 := 0) (xC (rNot (rJ2 (tgt := 125) j_ge (rIn 2 d_To_copyFrom_93 rfl) (rB d_To_copyFrom_94 rfl) d_To_copyFrom_96 (by decide)))) (sCp ka_To_44 (rAa (rFr fl_To_33 nk_9_5 (rAn 1 d_To_copyFrom_99 rfl) d_To_copyFrom_100) (rIn 2 d_To_copyFrom_103 rfl) d_To_copyFrom_104) (rI d_To_copyFrom_105 rfl) (rAa (rFr fl_To_33 nk_9_5 (rAn 0 d_To_copyFrom_106 rfl) d_To_copyFrom_107) (rIn 2 d_To_copyFrom_110 rfl) d_To_copyFrom_111) (rI d_To_copyFrom_112 rfl) (rSi d_To_copyFrom_113 rfl) (Nat.le_trans (Nat.le_of_ble_eq_true rfl) hd) d_To_copyFrom_116) (sGo (pn := 93) (sInc d_To_copyFrom_119 (by decide)) d_To_copyFrom_122 (by decide)))) (sS (p1 := 133) (sP 6 fl_To_50 fp_9_6 nk_9_6 (rAn 0 d_To_copyFrom_125 rfl) (xE (rF 6 fl_To_50 nk_9_6 (rAn 1 d_To_copyFrom_126 rfl) d_To_copyFrom_127 rfl)) d_To_copyFrom_130 rfl) (sS (p1 := 141) (sP 7 fl_To_53 fp_9_7 nk_9_7 (rAn 0 d_To_copyFrom_133 rfl) (xE (rF 7 fl_To_53 nk_9_7 (rAn 1 d_To_copyFrom_134 rfl) d_To_copyFrom_135 rfl)) d_To_copyFrom_138 rfl) (sS (p1 := 149) (sP 8 fl_To_56 fp_9_8 nk_9_8 (rAn 0 d_To_copyFrom_141 rfl) (xE (rF 8 fl_To_56 nk_9_8 (rAn 1 d_To_copyFrom_142 rfl) d_To_copyFrom_143 rfl)) d_To_copyFrom_146 rfl) (sS (p1 := 157) (sP 9 fl_To_59 fp_9_9 nk_9_9 (rAn 0 d_To_copyFrom_149 rfl) (xE (rF 9 fl_To_59 nk_9_9 (rAn 1 d_To_copyFrom_150 rfl) d_To_copyFrom_151 rfl)) d_To_copyFrom_154 rfl) (sS (p1 := 165) (sP 10 fl_To_62 fp_9_10 nk_9_10 (rAn 0 d_To_copyFrom_157 rfl) (xE (rF 10 fl_To_62 nk_9_10 (rAn 1 d_To_copyFrom_158 rfl) d_To_copyFrom_159 rfl)) d_To_copyFrom_162 rfl) (sS (p1 := 173) (sP 11 fl_To_36 fp_9_11 nk_9_11 (rAn 0 d_To_copyFrom_165 rfl) (xE (rF 11 fl_To_36 nk_9_11 (rAn 1 d_To_copyFrom_166 rfl) d_To_copyFrom_167 rfl)) d_To_copyFrom_170 rfl) (sRv d_To_copyFrom_173 rfl)))))))))))))
def isTn (s : Nat) : Prop := (zO 9 (s + 1) = true ∧ zptr (s + 1) 0 = s + 2 ∧ zptr (s + 1) 1 = s + 8 ∧ zptr (s + 1) 2 = s + 9 ∧ zptr (s + 1) 3 = s + 10 ∧ zptr (s + 1) 4 = s + 19 ∧ zptr (s + 1) 5 = s + 28) ∧ (zO 1 (s + 2) = true ∧ zkd (s + 8) = 0 ∧ zln (s + 8) = 7 ∧ zkd (s + 9) = 0 ∧ zln (s + 9) = 7 ∧ zkd (s + 10) = 4 ∧ zln (s + 10) = 8 ∧ zkd (s + 19) = 4 ∧ zln (s + 19) = 8 ∧ zkd (s + 28) = 4 ∧ zln (s + 28) = 6) ∧ (∀ i : Int, 0 ≤ i → i < 8 → (zpa (s + 10) i = s + 11 + i.toNat ∧ zkd (s + 11 + i.toNat) = 0 ∧ zln (s + 11 + i.toNat) = 4) ∧ zpa (s + 19) i = s + 20 + i.toNat ∧ zkd (s + 20 + i.toNat) = 0 ∧ zln (s + 20 + i.toNat) = 4) ∧ ∀ i : Int, 0 ≤ i → i < 6 → zpa (s + 28) i = s + 29 + i.toNat ∧ zkd (s + 29 + i.toNat) = 0 ∧ zln (s + 29 + i.toNat) = 385
def tnB (s : Nat) : Bool := ((zO 9 (s + 1)) && zptr (s + 1) 0 == s + 2 && zptr (s + 1) 1 == s + 8 && zptr (s + 1) 2 == s + 9 && zptr (s + 1) 3 == s + 10 && zptr (s + 1) 4 == s + 19 && zptr (s + 1) 5 == s + 28) && (zO 1 (s + 2) && zkd (s + 8) == 0 && zln (s + 8) == 7 && zkd (s + 9) == 0 && zln (s + 9) == 7 && zkd (s + 10) == 4 && zln (s + 10) == 8 && zkd (s + 19) == 4 && zln (s + 19) == 8 && zkd (s + 28) == 4 && zln (s + 28) == 6) && ((List.range 8).all (fun i => zpa (s + 10) (i : Int) == s + 11 + i && zkd (s + 11 + i) == 0 && zln (s + 11 + i) == 4 && zpa (s + 19) (i : Int) == s + 20 + i && zkd (s + 20 + i) == 0 && zln (s + 20 + i) == 4)) && (List.range 6).all (fun i => zpa (s + 28) (i : Int) == s + 29 + i && zkd (s + 29 + i) == 0 && zln (s + 29 + i) == 385)
theorem tnB_t {s : Nat} (h : tnB s = true) : isTn s := by
  unfold tnB at h
  simp only [Bool.and_eq_true, beq_iff_eq, List.all_eq_true] at h
  obtain ⟨⟨⟨⟨⟨⟨⟨⟨⟨a1, a2⟩, a3⟩, a4⟩, a5⟩, a6⟩, a7⟩, ⟨⟨⟨⟨⟨⟨⟨⟨⟨⟨b1, b2⟩, b3⟩, b4⟩, b5⟩, b6⟩, b7⟩, b8⟩, b9⟩, b10⟩, b11⟩⟩, c⟩, e⟩ := h
  refine ⟨⟨a1, a2, a3, a4, a5, a6, a7⟩, ⟨b1, b2, b3, b4, b5, b6, b7, b8, b9, b10, b11⟩, fun i h0 h1 => ?_, fun i h0 h1 => ?_⟩
  · have := c i.toNat (List.mem_range.mpr (by omega))
    rw [show ((i.toNat : Nat) : Int) = i by omega] at this
    exact ⟨⟨this.1.1.1.1.1, this.1.1.1.1.2, this.1.1.1.2⟩, this.1.1.2, this.1.2, this.2⟩
  · have := e i.toNat (List.mem_range.mpr (by omega))
    rw [show ((i.toNat : Nat) : Int) = i by omega] at this
    exact ⟨this.1.1, this.1.2, this.2⟩
theorem isTn_0 : isTn 0 := tnB_t (by decide +kernel)
theorem isTn_1 : isTn 35 := tnB_t (by decide +kernel)
theorem isTn_2 : isTn 69 := tnB_t (by decide +kernel)
/-- what is copied of a town -/
def cpT (T T' : zMem) : Prop := (∀ j : Int, 6 ≤ j → j < 12 → T' 1 j = T 1 j) ∧ (∀ j : Int, 5 ≤ j → j < 7 → T' 2 j = T 2 j) ∧ ∀ c : Nat, 3 ≤ c → c ≤ 34 → c ≠ 10 → c ≠ 19 → c ≠ 28 → ∀ i : Int, 0 ≤ i → i < zext c → T' c i = T c i
theorem TJ.cp {T T' : zMem} {κ κ' : Int → Int} (h : TJ T κ) (h1 : cpT T T') (h2 : ∀ i : Int, 0 ≤ i → i < 5764 → κ' i = κ i) : TJ T' κ' := by
  obtain ⟨a1, a2, a3, a4, a5, a6, a7, a8, a9, a10⟩ := h
  obtain ⟨e1, e2, h1⟩ := h1
  have e4 : ∀ c : Nat, 11 ≤ c → c ≤ 27 → c ≠ 19 → ∀ i : Int, 0 ≤ i → i < 4 → T' c i = T c i := fun c p q r i a b => h1 c (by omega) (by omega) (by omega) r (by omega) i a (by unfold zext; repeat' split; all_goals omega)
  have x3 : ∀ i : Int, 0 ≤ i → i < 7 → T' 3 i = T 3 i := fun i a b => h1 3 (by decide) (by decide) (by decide) (by decide) (by decide) i a b
  have x8 : ∀ i : Int, 0 ≤ i → i < 7 → T' 8 i = T 8 i := fun i a b => h1 8 (by decide) (by decide) (by decide) (by decide) (by decide) i a b
  have x9 : ∀ i : Int, 0 ≤ i → i < 7 → T' 9 i = T 9 i := fun i a b => h1 9 (by decide) (by decide) (by decide) (by decide) (by decide) i a b
  have xd : ∀ c : Nat, 4 ≤ c → c ≤ 7 → ∀ i : Int, 0 ≤ i → i < 16 → T' c i = T c i := fun c p q i a b => h1 c (by omega) (by omega) (by omega) (by omega) (by omega) i a (by unfold zext; repeat' split; all_goals omega)
  refine ⟨a1.c (e1 6 (by decide) (by decide)) (h2 _ (by decide) (by decide)), a2.c x3 (fun i a b => h2 i a (by omega)), a3.c (fun i a b => ⟨x8 i a b, x9 i a b⟩) (fun i a b => h2 i (by omega) (by omega)), a4.c (e2 5 (by decide) (by decide)) (fun i a b => ?_) (fun i a b => h2 i (by omega) (by omega)), a5.c (e2 6 (by decide) (by decide)) (h2 _ (by decide) (by decide)), a6.c (e1 7 (by decide) (by decide)) (h2 _ (by decide) (by decide)), a7.c (e1 8 (by decide) (by decide)) (fun c p q => e4 c (by omega) (by omega) (by omega)) (h2 _ (by decide) (by decide)) (fun i a b => h2 i (by omega) (by omega)), a8.c (e1 9 (by decide) (by decide)) (fun c p q => e4 c (by omega) (by omega) (by omega)) (h2 _ (by decide) (by decide)) (fun i a b => h2 i (by omega) (by omega)), a9.c (e1 10 (by decide) (by decide)) (fun c p q i a b => h1 c (by omega) (by omega) (by omega) (by omega) (by omega) i a (by unfold zext; repeat' split; all_goals omega)) (fun i a b => h2 i (by omega) b), a10.c (e1 11 (by decide) (by decide)) (e1 10 (by decide) (by decide)) (h2 _ (by decide) (by decide))⟩
  unfold fD
  rw [xd 4 (by decide) (by decide) i a b, xd 5 (by decide) (by decide) i a b, xd 6 (by decide) (by decide) i a b, xd 7 (by decide) (by decide) i a b]
theorem q_To_copyFrom {d : Nat} (hd : 6 ≤ d) {μ : zMem} {s u : Nat} (hs : isTn s) (hu : isTn u) (hne : s + 34 ≤ u ∨ u + 34 ≤ s) : zSp d 0 0 y_To_copyFrom zT0 [vr (s + 1), vr (u + 1)] μ zT0 (fun q μ' => q = none ∧ cpT (imT μ u) (imT μ' s) ∧ ∀ k : Nat, (k < s + 1 ∨ s + 35 ≤ k) → μ' k = μ k) := by
  obtain ⟨⟨u1, u2, u3, u4, u5, u6, u7⟩, ⟨u8, u9, u10, u11, u12, u13, u14, u15, u16, u17, u18⟩, uv, ul⟩ := hs
  obtain ⟨⟨v1, v2, v3, v4, v5, v6, v7⟩, ⟨v8, v9, v10, v11, v12, v13, v14, v15, v16, v17, v18⟩, vv, vl⟩ := hu
  refine zSp.ss [vr (s + 1), vr (u + 1), vx 0] rfl (w_To_copyFrom (Nat.le_trans (by decide) hd)) rfl rfl ?_
  (try simp only [zit_e, Bool.and_eq_true, Bool.or_eq_true, Bool.not_eq_true', Bool.and_eq_false_iff, Bool.or_eq_false_iff, Bool.not_eq_false', zbe, zdt, zdf, zb2_p, zbp_0, zbp_1, zbp_inj, zbp_01, Bool.true_eq_false, Bool.false_eq_true, true_and, and_true, Decidable.not_not, Classical.not_not, implies_true, List.nil_append, List.cons_append, List.append_assoc, Option.some.injEq, Sum.inl.injEq, zSw_c, zSw_n]); (try simp only [zit_e, Bool.and_eq_true, Bool.or_eq_true, Bool.not_eq_true', Bool.and_eq_false_iff, Bool.or_eq_false_iff, Bool.not_eq_false', zbe, zdt, zdf, zb2_p, zbp_0, zbp_1, zbp_inj, zbp_01, Bool.true_eq_false, Bool.false_eq_true, true_and, and_true, Decidable.not_not, Classical.not_not, implies_true, List.nil_append, List.cons_append, List.append_assoc, Option.some.injEq, Sum.inl.injEq, zSw_c, zSw_n, u1, u2, u3, u4, u5, u6, u7, u8, u9, u10, u11, u12, u13, u14, u15, u16, u17, u18, v1, v2, v3, v4, v5, v6, v7, v8, v9, v10, v11, v12, v13, v14, v15, v16, v17, v18]); (try simp only [zi_cs, zi_c0, zii_cs, zii_c0, zl_cs, zl_c0, zll_cs, zll_c0, zr_cs, zr_c0, zrr_cs, zrr_c0, zxs_cs, zxs_c0, zxx_cs, zxx_c0, zfree_c0, zfree_c1, zfree_cs, zfree_cz, zlong_i, zlong_r, zlong_x, zset_0, zset_s, true_and, and_true, Option.some.injEq, Sum.inl.injEq, Sum.inr.injEq, zb2_p, zbp_0, zbp_1, zbp_inj, zbp_01, Nat.zero_add, Nat.reduceAdd, implies_true, List.nil_append, List.cons_append, List.append_assoc, Int.not_lt, Int.not_le, Decidable.not_not, Int.zero_add, Int.reduceLE, Int.reduceLT, Int.reduceEq, Int.reduceNe, Int.reduceAdd, Int.reduceSub, Int.reduceMul, Int.reduceNeg, Int.reduceToNat, Nat.reduceMul, Nat.reduceLT, Nat.reduceEqDiff, and_self, ite_true, ite_false, zx1, zx2, zRecv, List.length_cons, List.length_nil, ne_eq, not_true_eq_false, not_false_eq_true, true_or, or_true, or_false, false_or, and_false, false_and, zf01, zf10, reduceCtorEq, zSw_c, zSw_n, zm_r, zit_T, zit_F, false_implies, true_implies, u1, u2, u3, u4, u5, u6, u7, u8, u9, u10, u11, u12, u13, u14, u15, u16, u17, u18, v1, v2, v3, v4, v5, v6, v7, v8, v9, v10, v11, v12, v13, v14, v15, v16, v17, v18])
  refine zCw.use (q_Le_copyFrom (d := 4) (by decide) u8 v8 (by omega)) (by omega) (fun q μ1 e => ?_)
  obtain ⟨rfl, b1, b2, b3, b4, b5⟩ := e
  refine ⟨rfl, ?_⟩
  have hx : ∀ c : Nat, 3 ≤ c → c ≤ 9 → c = 3 ∨ c = 4 ∨ c = 5 ∨ c = 6 ∨ c = 7 ∨ c = 8 ∨ c = 9 := fun c p q => by omega
  refine zLoop.up 8 (fun j ρ m => ρ = [vr (s + 1), vr (u + 1), vi j] ∧ (∀ i : Int, 5 ≤ i → i < 7 → m (s + 2) i = μ (u + 2) i) ∧ (∀ c : Nat, 3 ≤ c → c ≤ 9 → ∀ i : Int, 0 ≤ i → i < zext c → m (s + c) i = μ (u + c) i) ∧ (∀ r : Nat, r < j → ∀ i : Int, 0 ≤ i → i < 4 → m (s + 11 + r) i = μ (u + 11 + r) i ∧ m (s + 20 + r) i = μ (u + 20 + r) i) ∧ ∀ k : Nat, (k < s + 1 ∨ s + 35 ≤ k) → m k = μ k) ⟨rfl, fun i i0 i1 => ?_, fun c p q i i0 i1 => ?_, fun r hr => by omega, fun k hk => ?_⟩ ?_
  · simp only [zcp_r]
    rw [zit_f (by omega), zit_f (by omega)]
    rcases (show i = 5 ∨ i = 6 by omega) with rfl | rfl
    · exact b3
    · exact b4
  · simp only [zcp_r]
    rcases hx c p q with rfl | rfl | rfl | rfl | rfl | rfl | rfl
    · have i1 : i < 7 := i1
      rw [zit_f (by omega), zit_f (by omega)]
      exact b1 i i0 i1
    · have i1 : i < 16 := i1
      rw [zit_f (by omega), zit_f (by omega)]
      exact (b2 i i0 i1).1
    · have i1 : i < 16 := i1
      rw [zit_f (by omega), zit_f (by omega)]
      exact (b2 i i0 i1).2.1
    · have i1 : i < 16 := i1
      rw [zit_f (by omega), zit_f (by omega)]
      exact (b2 i i0 i1).2.2.1
    · have i1 : i < 16 := i1
      rw [zit_f (by omega), zit_f (by omega)]
      exact (b2 i i0 i1).2.2.2
    · have i1 : i < 7 := i1
      rw [zit_f (by omega), zit_t (by omega), show (0 : Int) + (i - 0) = i by omega, b5 _ (by simp only [List.mem_cons, List.not_mem_nil, or_false]; omega)]
    · have i1 : i < 7 := i1
      rw [zit_t (by omega), zit_f (by omega), show (0 : Int) + (i - 0) = i by omega, b5 _ (by simp only [List.mem_cons, List.not_mem_nil, or_false]; omega)]
  · have : ∀ {m : zMem} {a b : Nat} {l : Int}, b ≠ k → zcp m a 0 b 0 l k = m k := fun {m a b l} hb => by
      funext i
      rw [zcp_r, zit_f (fun q => hb q.1.symm)]
    rw [this (by omega), this (by omega), b5 _ (by simp only [List.mem_cons, List.not_mem_nil, or_false]; omega)]
  rintro j ρ m hj ⟨rfl, i1, i2, i3, i4⟩
  (try simp only [zit_e, Bool.and_eq_true, Bool.or_eq_true, Bool.not_eq_true', Bool.and_eq_false_iff, Bool.or_eq_false_iff, Bool.not_eq_false', zbe, zdt, zdf, zb2_p, zbp_0, zbp_1, zbp_inj, zbp_01, Bool.true_eq_false, Bool.false_eq_true, true_and, and_true, Decidable.not_not, Classical.not_not, implies_true, List.nil_append, List.cons_append, List.append_assoc, Option.some.injEq, Sum.inl.injEq, zSw_c, zSw_n]); (try simp only [zit_e, Bool.and_eq_true, Bool.or_eq_true, Bool.not_eq_true', Bool.and_eq_false_iff, Bool.or_eq_false_iff, Bool.not_eq_false', zbe, zdt, zdf, zb2_p, zbp_0, zbp_1, zbp_inj, zbp_01, Bool.true_eq_false, Bool.false_eq_true, true_and, and_true, Decidable.not_not, Classical.not_not, implies_true, List.nil_append, List.cons_append, List.append_assoc, Option.some.injEq, Sum.inl.injEq, zSw_c, zSw_n, u1, u2, u3, u4, u5, u6, u7, u8, u9, u10, u11, u12, u13, u14, u15, u16, u17, u18, v1, v2, v3, v4, v5, v6, v7, v8, v9, v10, v11, v12, v13, v14, v15, v16, v17, v18]); (try simp only [zi_cs, zi_c0, zii_cs, zii_c0, zl_cs, zl_c0, zll_cs, zll_c0, zr_cs, zr_c0, zrr_cs, zrr_c0, zxs_cs, zxs_c0, zxx_cs, zxx_c0, zfree_c0, zfree_c1, zfree_cs, zfree_cz, zlong_i, zlong_r, zlong_x, zset_0, zset_s, true_and, and_true, Option.some.injEq, Sum.inl.injEq, Sum.inr.injEq, zb2_p, zbp_0, zbp_1, zbp_inj, zbp_01, Nat.zero_add, Nat.reduceAdd, implies_true, List.nil_append, List.cons_append, List.append_assoc, Int.not_lt, Int.not_le, Decidable.not_not, Int.zero_add, Int.reduceLE, Int.reduceLT, Int.reduceEq, Int.reduceNe, Int.reduceAdd, Int.reduceSub, Int.reduceMul, Int.reduceNeg, Int.reduceToNat, Nat.reduceMul, Nat.reduceLT, Nat.reduceEqDiff, and_self, ite_true, ite_false, zx1, zx2, zRecv, List.length_cons, List.length_nil, ne_eq, not_true_eq_false, not_false_eq_true, true_or, or_true, or_false, false_or, and_false, false_and, zf01, zf10, reduceCtorEq, zSw_c, zSw_n, zm_r, zit_T, zit_F, false_implies, true_implies, u1, u2, u3, u4, u5, u6, u7, u8, u9, u10, u11, u12, u13, u14, u15, u16, u17, u18, v1, v2, v3, v4, v5, v6, v7, v8, v9, v10, v11, v12, v13, v14, v15, v16, v17, v18])
  refine zif (fun c => ?_) (fun c => ?_)
  · done
  · have : j = 8 := by omega
    subst this
    done

