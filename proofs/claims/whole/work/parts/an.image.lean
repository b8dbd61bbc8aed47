/-! a town is copied -/
theorem lv_To_40 : zLv "DebtDoors$Town" 40 y_Le_copyFrom 1 1 := ⟨⟨(zTb_in 1306 (by decide +kernel) (by decide +kernel)), m_Le_copyFrom.1, m_Le_copyFrom.2.1, m_Le_copyFrom.2.2⟩, _, rfl, rfl⟩
theorem ka_To_44 : Cond.methodLink "DebtDoors$Town" 44 arraycopyName ∈ zTb := (zTb_in 1307 (by decide +kernel) (by decide +kernel))
theorem fl_To_53 : zFl "DebtDoors$Town" 53 9 7 := ⟨_, rfl, by decide, (zTb_in 251 (by decide +kernel) (by decide +kernel)), rfl⟩
theorem fl_To_56 : zFl "DebtDoors$Town" 56 9 8 := ⟨_, rfl, by decide, (zTb_in 255 (by decide +kernel) (by decide +kernel)), rfl⟩
theorem fl_To_59 : zFl "DebtDoors$Town" 59 9 9 := ⟨_, rfl, by decide, (zTb_in 258 (by decide +kernel) (by decide +kernel)), rfl⟩
theorem fl_To_62 : zFl "DebtDoors$Town" 62 9 10 := ⟨_, rfl, by decide, (zTb_in 260 (by decide +kernel) (by decide +kernel)), rfl⟩
def y_To_copyFrom : zMt := (⟨"DebtDoors$Town", "copyFrom", "(LDebtDoors$Town;)V"⟩, prog_11_method_2_code, 3, none)
theorem d_To_copyFrom_0 : decode prog_11_method_2_code 0 = .ok (.aload_n 0, 1) := by decide +kernel
theorem d_To_copyFrom_1 : decode prog_11_method_2_code 1 = .ok (.getfield 12, 3) := by decide +kernel
theorem d_To_copyFrom_4 : decode prog_11_method_2_code 4 = .ok (.aload_n 1, 1) := by decide +kernel
theorem d_To_copyFrom_5 : decode prog_11_method_2_code 5 = .ok (.getfield 12, 3) := by decide +kernel
theorem d_To_copyFrom_8 : decode prog_11_method_2_code 8 = .ok (.invokevirtual 40, 3) := by decide +kernel
theorem d_To_copyFrom_11 : decode prog_11_method_2_code 11 = .ok (.aload_n 1, 1) := by decide +kernel
theorem d_To_copyFrom_12 : decode prog_11_method_2_code 12 = .ok (.getfield 18, 3) := by decide +kernel
theorem d_To_copyFrom_15 : decode prog_11_method_2_code 15 = .ok (.iconst 0, 1) := by decide +kernel
theorem d_To_copyFrom_16 : decode prog_11_method_2_code 16 = .ok (.aload_n 0, 1) := by decide +kernel
theorem d_To_copyFrom_17 : decode prog_11_method_2_code 17 = .ok (.getfield 18, 3) := by decide +kernel
theorem d_To_copyFrom_20 : decode prog_11_method_2_code 20 = .ok (.iconst 0, 1) := by decide +kernel
theorem d_To_copyFrom_21 : decode prog_11_method_2_code 21 = .ok (.bipush 7, 2) := by decide +kernel
theorem d_To_copyFrom_23 : decode prog_11_method_2_code 23 = .ok (.invokestatic 44, 3) := by decide +kernel
theorem d_To_copyFrom_26 : decode prog_11_method_2_code 26 = .ok (.aload_n 1, 1) := by decide +kernel
theorem d_To_copyFrom_27 : decode prog_11_method_2_code 27 = .ok (.getfield 22, 3) := by decide +kernel
theorem d_To_copyFrom_30 : decode prog_11_method_2_code 30 = .ok (.iconst 0, 1) := by decide +kernel
theorem d_To_copyFrom_31 : decode prog_11_method_2_code 31 = .ok (.aload_n 0, 1) := by decide +kernel
theorem d_To_copyFrom_32 : decode prog_11_method_2_code 32 = .ok (.getfield 22, 3) := by decide +kernel
theorem d_To_copyFrom_35 : decode prog_11_method_2_code 35 = .ok (.iconst 0, 1) := by decide +kernel
theorem d_To_copyFrom_36 : decode prog_11_method_2_code 36 = .ok (.bipush 7, 2) := by decide +kernel
theorem d_To_copyFrom_38 : decode prog_11_method_2_code 38 = .ok (.invokestatic 44, 3) := by decide +kernel
theorem d_To_copyFrom_41 : decode prog_11_method_2_code 41 = .ok (.iconst 0, 1) := by decide +kernel
theorem d_To_copyFrom_42 : decode prog_11_method_2_code 42 = .ok (.istore_n 2, 1) := by decide +kernel
theorem d_To_copyFrom_43 : decode prog_11_method_2_code 43 = .ok (.iload_n 2, 1) := by decide +kernel
theorem d_To_copyFrom_44 : decode prog_11_method_2_code 44 = .ok (.bipush 8, 2) := by decide +kernel
theorem d_To_copyFrom_46 : decode prog_11_method_2_code 46 = .ok (.if_icmp .ge 45, 3) := by decide +kernel
theorem d_To_copyFrom_49 : decode prog_11_method_2_code 49 = .ok (.aload_n 1, 1) := by decide +kernel
theorem d_To_copyFrom_50 : decode prog_11_method_2_code 50 = .ok (.getfield 27, 3) := by decide +kernel
theorem d_To_copyFrom_53 : decode prog_11_method_2_code 53 = .ok (.iload_n 2, 1) := by decide +kernel
theorem d_To_copyFrom_54 : decode prog_11_method_2_code 54 = .ok (.aaload, 1) := by decide +kernel
theorem d_To_copyFrom_55 : decode prog_11_method_2_code 55 = .ok (.iconst 0, 1) := by decide +kernel
theorem d_To_copyFrom_56 : decode prog_11_method_2_code 56 = .ok (.aload_n 0, 1) := by decide +kernel
theorem d_To_copyFrom_57 : decode prog_11_method_2_code 57 = .ok (.getfield 27, 3) := by decide +kernel
theorem d_To_copyFrom_60 : decode prog_11_method_2_code 60 = .ok (.iload_n 2, 1) := by decide +kernel
theorem d_To_copyFrom_61 : decode prog_11_method_2_code 61 = .ok (.aaload, 1) := by decide +kernel
theorem d_To_copyFrom_62 : decode prog_11_method_2_code 62 = .ok (.iconst 0, 1) := by decide +kernel
theorem d_To_copyFrom_63 : decode prog_11_method_2_code 63 = .ok (.iconst 4, 1) := by decide +kernel
theorem d_To_copyFrom_64 : decode prog_11_method_2_code 64 = .ok (.invokestatic 44, 3) := by decide +kernel
theorem d_To_copyFrom_67 : decode prog_11_method_2_code 67 = .ok (.aload_n 1, 1) := by decide +kernel
theorem d_To_copyFrom_68 : decode prog_11_method_2_code 68 = .ok (.getfield 30, 3) := by decide +kernel
theorem d_To_copyFrom_71 : decode prog_11_method_2_code 71 = .ok (.iload_n 2, 1) := by decide +kernel
theorem d_To_copyFrom_72 : decode prog_11_method_2_code 72 = .ok (.aaload, 1) := by decide +kernel
theorem d_To_copyFrom_73 : decode prog_11_method_2_code 73 = .ok (.iconst 0, 1) := by decide +kernel
theorem d_To_copyFrom_74 : decode prog_11_method_2_code 74 = .ok (.aload_n 0, 1) := by decide +kernel
theorem d_To_copyFrom_75 : decode prog_11_method_2_code 75 = .ok (.getfield 30, 3) := by decide +kernel
theorem d_To_copyFrom_78 : decode prog_11_method_2_code 78 = .ok (.iload_n 2, 1) := by decide +kernel
theorem d_To_copyFrom_79 : decode prog_11_method_2_code 79 = .ok (.aaload, 1) := by decide +kernel
theorem d_To_copyFrom_80 : decode prog_11_method_2_code 80 = .ok (.iconst 0, 1) := by decide +kernel
theorem d_To_copyFrom_81 : decode prog_11_method_2_code 81 = .ok (.iconst 4, 1) := by decide +kernel
theorem d_To_copyFrom_82 : decode prog_11_method_2_code 82 = .ok (.invokestatic 44, 3) := by decide +kernel
theorem d_To_copyFrom_85 : decode prog_11_method_2_code 85 = .ok (.iinc 2 1, 3) := by decide +kernel
theorem d_To_copyFrom_88 : decode prog_11_method_2_code 88 = .ok (.goto (-45), 3) := by decide +kernel
theorem d_To_copyFrom_91 : decode prog_11_method_2_code 91 = .ok (.iconst 0, 1) := by decide +kernel
theorem d_To_copyFrom_92 : decode prog_11_method_2_code 92 = .ok (.istore_n 2, 1) := by decide +kernel
theorem d_To_copyFrom_93 : decode prog_11_method_2_code 93 = .ok (.iload_n 2, 1) := by decide +kernel
theorem d_To_copyFrom_94 : decode prog_11_method_2_code 94 = .ok (.bipush 6, 2) := by decide +kernel
theorem d_To_copyFrom_96 : decode prog_11_method_2_code 96 = .ok (.if_icmp .ge 29, 3) := by decide +kernel
theorem d_To_copyFrom_99 : decode prog_11_method_2_code 99 = .ok (.aload_n 1, 1) := by decide +kernel
theorem d_To_copyFrom_100 : decode prog_11_method_2_code 100 = .ok (.getfield 33, 3) := by decide +kernel
theorem d_To_copyFrom_103 : decode prog_11_method_2_code 103 = .ok (.iload_n 2, 1) := by decide +kernel
theorem d_To_copyFrom_104 : decode prog_11_method_2_code 104 = .ok (.aaload, 1) := by decide +kernel
theorem d_To_copyFrom_105 : decode prog_11_method_2_code 105 = .ok (.iconst 0, 1) := by decide +kernel
theorem d_To_copyFrom_106 : decode prog_11_method_2_code 106 = .ok (.aload_n 0, 1) := by decide +kernel
theorem d_To_copyFrom_107 : decode prog_11_method_2_code 107 = .ok (.getfield 33, 3) := by decide +kernel
theorem d_To_copyFrom_110 : decode prog_11_method_2_code 110 = .ok (.iload_n 2, 1) := by decide +kernel
theorem d_To_copyFrom_111 : decode prog_11_method_2_code 111 = .ok (.aaload, 1) := by decide +kernel
theorem d_To_copyFrom_112 : decode prog_11_method_2_code 112 = .ok (.iconst 0, 1) := by decide +kernel
theorem d_To_copyFrom_113 : decode prog_11_method_2_code 113 = .ok (.sipush 385, 3) := by decide +kernel
theorem d_To_copyFrom_116 : decode prog_11_method_2_code 116 = .ok (.invokestatic 44, 3) := by decide +kernel
theorem d_To_copyFrom_119 : decode prog_11_method_2_code 119 = .ok (.iinc 2 1, 3) := by decide +kernel
theorem d_To_copyFrom_122 : decode prog_11_method_2_code 122 = .ok (.goto (-29), 3) := by decide +kernel
theorem d_To_copyFrom_125 : decode prog_11_method_2_code 125 = .ok (.aload_n 0, 1) := by decide +kernel
theorem d_To_copyFrom_126 : decode prog_11_method_2_code 126 = .ok (.aload_n 1, 1) := by decide +kernel
theorem d_To_copyFrom_127 : decode prog_11_method_2_code 127 = .ok (.getfield 50, 3) := by decide +kernel
theorem d_To_copyFrom_130 : decode prog_11_method_2_code 130 = .ok (.putfield 50, 3) := by decide +kernel
theorem d_To_copyFrom_133 : decode prog_11_method_2_code 133 = .ok (.aload_n 0, 1) := by decide +kernel
theorem d_To_copyFrom_134 : decode prog_11_method_2_code 134 = .ok (.aload_n 1, 1) := by decide +kernel
theorem d_To_copyFrom_135 : decode prog_11_method_2_code 135 = .ok (.getfield 53, 3) := by decide +kernel
theorem d_To_copyFrom_138 : decode prog_11_method_2_code 138 = .ok (.putfield 53, 3) := by decide +kernel
theorem d_To_copyFrom_141 : decode prog_11_method_2_code 141 = .ok (.aload_n 0, 1) := by decide +kernel
theorem d_To_copyFrom_142 : decode prog_11_method_2_code 142 = .ok (.aload_n 1, 1) := by decide +kernel
theorem d_To_copyFrom_143 : decode prog_11_method_2_code 143 = .ok (.getfield 56, 3) := by decide +kernel
theorem d_To_copyFrom_146 : decode prog_11_method_2_code 146 = .ok (.putfield 56, 3) := by decide +kernel
theorem d_To_copyFrom_149 : decode prog_11_method_2_code 149 = .ok (.aload_n 0, 1) := by decide +kernel
theorem d_To_copyFrom_150 : decode prog_11_method_2_code 150 = .ok (.aload_n 1, 1) := by decide +kernel
theorem d_To_copyFrom_151 : decode prog_11_method_2_code 151 = .ok (.getfield 59, 3) := by decide +kernel
theorem d_To_copyFrom_154 : decode prog_11_method_2_code 154 = .ok (.putfield 59, 3) := by decide +kernel
theorem d_To_copyFrom_157 : decode prog_11_method_2_code 157 = .ok (.aload_n 0, 1) := by decide +kernel
theorem d_To_copyFrom_158 : decode prog_11_method_2_code 158 = .ok (.aload_n 1, 1) := by decide +kernel
theorem d_To_copyFrom_159 : decode prog_11_method_2_code 159 = .ok (.getfield 62, 3) := by decide +kernel
theorem d_To_copyFrom_162 : decode prog_11_method_2_code 162 = .ok (.putfield 62, 3) := by decide +kernel
theorem d_To_copyFrom_165 : decode prog_11_method_2_code 165 = .ok (.aload_n 0, 1) := by decide +kernel
theorem d_To_copyFrom_166 : decode prog_11_method_2_code 166 = .ok (.aload_n 1, 1) := by decide +kernel
theorem d_To_copyFrom_167 : decode prog_11_method_2_code 167 = .ok (.getfield 36, 3) := by decide +kernel
theorem d_To_copyFrom_170 : decode prog_11_method_2_code 170 = .ok (.putfield 36, 3) := by decide +kernel
theorem d_To_copyFrom_173 : decode prog_11_method_2_code 173 = .ok (.return_, 1) := by decide +kernel
def w_To_copyFrom {d : Nat} (hd : 3 ≤ d) := (show SS ("DebtDoors$Town", prog_11_method_2_code, 3) (none) d 0 0 0 0 _ from (sS (p1 := 11) (sV (xVv lv_To_40 (xA (rAr (rAr rA0 (rFr fl_To_12 nk_9_0 (rAn 0 d_To_copyFrom_0 rfl) d_To_copyFrom_1)) (rFr fl_To_12 nk_9_0 (rAn 1 d_To_copyFrom_4 rfl) d_To_copyFrom_5))) (by decide) d_To_copyFrom_8)) (sS (p1 := 26) (sCp ka_To_44 (rFr fl_To_18 nk_9_1 (rAn 1 d_To_copyFrom_11 rfl) d_To_copyFrom_12) (rI d_To_copyFrom_15 rfl) (rFr fl_To_18 nk_9_1 (rAn 0 d_To_copyFrom_16 rfl) d_To_copyFrom_17) (rI d_To_copyFrom_20 rfl) (rB d_To_copyFrom_21 rfl) (Nat.le_trans (Nat.le_of_ble_eq_true rfl) hd) d_To_copyFrom_23) (sS (p1 := 41) (sCp ka_To_44 (rFr fl_To_22 nk_9_2 (rAn 1 d_To_copyFrom_26 rfl) d_To_copyFrom_27) (rI d_To_copyFrom_30 rfl) (rFr fl_To_22 nk_9_2 (rAn 0 d_To_copyFrom_31 rfl) d_To_copyFrom_32) (rI d_To_copyFrom_35 rfl) (rB d_To_copyFrom_36 rfl) (Nat.le_trans (Nat.le_of_ble_eq_true rfl) hd) d_To_copyFrom_38) (sS (p1 := 91) (sS (p1 := 43) (sIn 2 (xE (rI d_To_copyFrom_41 rfl)) d_To_copyFrom_42 rfl (by decide)) (sLp (ps := 85) (tt := 49) (pn := 91) (p1 := 0) (p2 := 0) (xC (rNot (rJ2 (tgt := 91) j_ge (rIn 2 d_To_copyFrom_43 rfl) (rB d_To_copyFrom_44 rfl) d_To_copyFrom_46 (by decide)))) (sS (p1 := 67) (sCp ka_To_44 (rAa (rFr fl_To_27 nk_9_3 (rAn 1 d_To_copyFrom_49 rfl) d_To_copyFrom_50) (rIn 2 d_To_copyFrom_53 rfl) d_To_copyFrom_54) (rI d_To_copyFrom_55 rfl) (rAa (rFr fl_To_27 nk_9_3 (rAn 0 d_To_copyFrom_56 rfl) d_To_copyFrom_57) (rIn 2 d_To_copyFrom_60 rfl) d_To_copyFrom_61) (rI d_To_copyFrom_62 rfl) (rI d_To_copyFrom_63 rfl) (Nat.le_trans (Nat.le_of_ble_eq_true rfl) hd) d_To_copyFrom_64) (sCp ka_To_44 (rAa (rFr fl_To_30 nk_9_4 (rAn 1 d_To_copyFrom_67 rfl) d_To_copyFrom_68) (rIn 2 d_To_copyFrom_71 rfl) d_To_copyFrom_72) (rI d_To_copyFrom_73 rfl) (rAa (rFr fl_To_30 nk_9_4 (rAn 0 d_To_copyFrom_74 rfl) d_To_copyFrom_75) (rIn 2 d_To_copyFrom_78 rfl) d_To_copyFrom_79) (rI d_To_copyFrom_80 rfl) (rI d_To_copyFrom_81 rfl) (Nat.le_trans (Nat.le_of_ble_eq_true rfl) hd) d_To_copyFrom_82)) (sGo (pn := 43) (sInc d_To_copyFrom_85 (by decide)) d_To_copyFrom_88 (by decide)))) (sS (p1 := 125) (sS (p1 := 93) (sIn 2 (xE (rI d_To_copyFrom_91 rfl)) d_To_copyFrom_92 rfl (by decide)) (sLp (ps := 119) (tt := 99) (pn := 125) (p1 := 0) (p2 := 0) (xC (rNot (rJ2 (tgt := 125) j_ge (rIn 2 d_To_copyFrom_93 rfl) (rB d_To_copyFrom_94 rfl) d_To_copyFrom_96 (by decide)))) (sCp ka_To_44 (rAa (rFr fl_To_33 nk_9_5 (rAn 1 d_To_copyFrom_99 rfl) d_To_copyFrom_100) (rIn 2 d_To_copyFrom_103 rfl) d_To_copyFrom_104) (rI d_To_copyFrom_105 rfl) (rAa (rFr fl_To_33 nk_9_5 (rAn 0 d_To_copyFrom_106 rfl) d_To_copyFrom_107) (rIn 2 d_To_copyFrom_110 rfl) d_To_copyFrom_111) (rI d_To_copyFrom_112 rfl) (rSi d_To_copyFrom_113 rfl) (Nat.le_trans (Nat.le_of_ble_eq_true rfl) hd) d_To_copyFrom_116) (sGo (pn := 93) (sInc d_To_copyFrom_119 (by decide)) d_To_copyFrom_122 (by decide)))) (sS (p1 := 133) (sP 6 fl_To_50 fp_9_6 nk_9_6 (rAn 0 d_To_copyFrom_125 rfl) (xE (rF 6 fl_To_50 nk_9_6 (rAn 1 d_To_copyFrom_126 rfl) d_To_copyFrom_127 rfl)) d_To_copyFrom_130 rfl) (sS (p1 := 141) (sP 7 fl_To_53 fp_9_7 nk_9_7 (rAn 0 d_To_copyFrom_133 rfl) (xE (rF 7 fl_To_53 nk_9_7 (rAn 1 d_To_copyFrom_134 rfl) d_To_copyFrom_135 rfl)) d_To_copyFrom_138 rfl) (sS (p1 := 149) (sP 8 fl_To_56 fp_9_8 nk_9_8 (rAn 0 d_To_copyFrom_141 rfl) (xE (rF 8 fl_To_56 nk_9_8 (rAn 1 d_To_copyFrom_142 rfl) d_To_copyFrom_143 rfl)) d_To_copyFrom_146 rfl) (sS (p1 := 157) (sP 9 fl_To_59 fp_9_9 nk_9_9 (rAn 0 d_To_copyFrom_149 rfl) (xE (rF 9 fl_To_59 nk_9_9 (rAn 1 d_To_copyFrom_150 rfl) d_To_copyFrom_151 rfl)) d_To_copyFrom_154 rfl) (sS (p1 := 165) (sP 10 fl_To_62 fp_9_10 nk_9_10 (rAn 0 d_To_copyFrom_157 rfl) (xE (rF 10 fl_To_62 nk_9_10 (rAn 1 d_To_copyFrom_158 rfl) d_To_copyFrom_159 rfl)) d_To_copyFrom_162 rfl) (sS (p1 := 173) (sP 11 fl_To_36 fp_9_11 nk_9_11 (rAn 0 d_To_copyFrom_165 rfl) (xE (rF 11 fl_To_36 nk_9_11 (rAn 1 d_To_copyFrom_166 rfl) d_To_copyFrom_167 rfl)) d_To_copyFrom_170 rfl) (sRv d_To_copyFrom_173 rfl)))))))))))))
def isTn (s : Nat) : Prop := (zO 9 (s + 1) = true ∧ zptr (s + 1) 0 = s + 2 ∧ zptr (s + 1) 1 = s + 8 ∧ zptr (s + 1) 2 = s + 9 ∧ zptr (s + 1) 3 = s + 10 ∧ zptr (s + 1) 4 = s + 19 ∧ zptr (s + 1) 5 = s + 28) ∧ (zO 1 (s + 2) = true ∧ zkd (s + 8) = 0 ∧ zln (s + 8) = 7 ∧ zkd (s + 9) = 0 ∧ zln (s + 9) = 7 ∧ zkd (s + 10) = 4 ∧ zln (s + 10) = 8 ∧ zkd (s + 19) = 4 ∧ zln (s + 19) = 8 ∧ zkd (s + 28) = 4 ∧ zln (s + 28) = 6) ∧ (∀ i : Int, 0 ≤ i → i < 8 → (zpa (s + 10) i = s + 11 + i.toNat ∧ zkd (s + 11 + i.toNat) = 0 ∧ zln (s + 11 + i.toNat) = 4) ∧ zpa (s + 19) i = s + 20 + i.toNat ∧ zkd (s + 20 + i.toNat) = 0 ∧ zln (s + 20 + i.toNat) = 4) ∧ ∀ i : Int, 0 ≤ i → i < 6 → zpa (s + 28) i = s + 29 + i.toNat ∧ zkd (s + 29 + i.toNat) = 0 ∧ zln (s + 29 + i.toNat) = 385
def tnB (s : Nat) : Bool := ((zO 9 (s + 1)) && zptr (s + 1) 0 == s + 2 && zptr (s + 1) 1 == s + 8 && zptr (s + 1) 2 == s + 9 && zptr (s + 1) 3 == s + 10 && zptr (s + 1) 4 == s + 19 && zptr (s + 1) 5 == s + 28) && (zO 1 (s + 2) && zkd (s + 8) == 0 && zln (s + 8) == 7 && zkd (s + 9) == 0 && zln (s + 9) == 7 && zkd (s + 10) == 4 && zln (s + 10) == 8 && zkd (s + 19) == 4 && zln (s + 19) == 8 && zkd (s + 28) == 4 && zln (s + 28) == 6) && ((List.range 8).all (fun i => zpa (s + 10) (i : Int) == s + 11 + i && zkd (s + 11 + i) == 0 && zln (s + 11 + i) == 4 && zpa (s + 19) (i : Int) == s + 20 + i && zkd (s + 20 + i) == 0 && zln (s + 20 + i) == 4)) && (List.range 6).all (fun i => zpa (s + 28) (i : Int) == s + 29 + i && zkd (s + 29 + i) == 0 && zln (s + 29 + i) == 385)
theorem tnB_t {s : Nat} (h : tnB s = true) : isTn s := by
  unfold tnB at h
  simp only [Bool.and_eq_true, beq_iff_eq, List.all_eq_true] at h
  obtain ⟨⟨⟨⟨⟨⟨⟨⟨⟨a1, a2⟩, a3⟩, a4⟩, a5⟩, a6⟩, a7⟩, ⟨⟨⟨⟨⟨⟨⟨⟨⟨⟨b1, b2⟩, b3⟩, b4⟩, b5⟩, b6⟩, b7⟩, b8⟩, b9⟩, b10⟩, b11⟩⟩, c⟩, e⟩ := h
  refine ⟨⟨a1, a2, a3, a4, a5, a6, a7⟩, ⟨b1, b2, b3, b4, b5, b6, b7, b8, b9, b10, b11⟩, fun i h0 h1 => ?_, fun i h0 h1 => ?_⟩
  · have := c i.toNat (List.mem_range.mpr (by omega))
    rw [show ((i.toNat : Nat) : Int) = i by omega] at this
    exact ⟨⟨this.1.1.1.1.1, this.1.1.1.1.2, this.1.1.1.2⟩, this.1.1.2, this.1.2, this.2⟩
  · have := e i.toNat (List.mem_range.mpr (by omega))
    rw [show ((i.toNat : Nat) : Int) = i by omega] at this
    exact ⟨this.1.1, this.1.2, this.2⟩
theorem isTn_0 : isTn 0 := tnB_t (by decide +kernel)
theorem isTn_1 : isTn 35 := tnB_t (by decide +kernel)
theorem isTn_2 : isTn 69 := tnB_t (by decide +kernel)
/-- what is copied of a town -/
def cpT (T T' : zMem) : Prop := (∀ j : Int, 6 ≤ j → j < 12 → T' 1 j = T 1 j) ∧ (∀ j : Int, 5 ≤ j → j < 7 → T' 2 j = T 2 j) ∧ ∀ c : Nat, 3 ≤ c → c ≤ 34 → c ≠ 10 → c ≠ 19 → c ≠ 28 → ∀ i : Int, 0 ≤ i → i < zext c → T' c i = T c i
theorem TJ.cp {T T' : zMem} {κ κ' : Int → Int} (h : TJ T κ) (h1 : cpT T T') (h2 : ∀ i : Int, 0 ≤ i → i < 5764 → κ' i = κ i) : TJ T' κ' := by
  obtain ⟨a1, a2, a3, a4, a5, a6, a7, a8, a9, a10⟩ := h
  obtain ⟨e1, e2, h1⟩ := h1
  have e4 : ∀ c : Nat, 11 ≤ c → c ≤ 27 → c ≠ 19 → ∀ i : Int, 0 ≤ i → i < 4 → T' c i = T c i := fun c p q r i a b => h1 c (by omega) (by omega) (by omega) r (by omega) i a (by unfold zext; repeat' split; all_goals omega)
  have x3 : ∀ i : Int, 0 ≤ i → i < 7 → T' 3 i = T 3 i := fun i a b => h1 3 (by decide) (by decide) (by decide) (by decide) (by decide) i a b
  have x8 : ∀ i : Int, 0 ≤ i → i < 7 → T' 8 i = T 8 i := fun i a b => h1 8 (by decide) (by decide) (by decide) (by decide) (by decide) i a b
  have x9 : ∀ i : Int, 0 ≤ i → i < 7 → T' 9 i = T 9 i := fun i a b => h1 9 (by decide) (by decide) (by decide) (by decide) (by decide) i a b
  have xd : ∀ c : Nat, 4 ≤ c → c ≤ 7 → ∀ i : Int, 0 ≤ i → i < 16 → T' c i = T c i := fun c p q i a b => h1 c (by omega) (by omega) (by omega) (by omega) (by omega) i a (by unfold zext; repeat' split; all_goals omega)
  refine ⟨a1.c (e1 6 (by decide) (by decide)) (h2 _ (by decide) (by decide)), a2.c x3 (fun i a b => h2 i a (by omega)), a3.c (fun i a b => ⟨x8 i a b, x9 i a b⟩) (fun i a b => h2 i (by omega) (by omega)), a4.c (e2 5 (by decide) (by decide)) (fun i a b => ?_) (fun i a b => h2 i (by omega) (by omega)), a5.c (e2 6 (by decide) (by decide)) (h2 _ (by decide) (by decide)), a6.c (e1 7 (by decide) (by decide)) (h2 _ (by decide) (by decide)), a7.c (e1 8 (by decide) (by decide)) (fun c p q => e4 c (by omega) (by omega) (by omega)) (h2 _ (by decide) (by decide)) (fun i a b => h2 i (by omega) (by omega)), a8.c (e1 9 (by decide) (by decide)) (fun c p q => e4 c (by omega) (by omega) (by omega)) (h2 _ (by decide) (by decide)) (fun i a b => h2 i (by omega) (by omega)), a9.c (e1 10 (by decide) (by decide)) (fun c p q i a b => h1 c (by omega) (by omega) (by omega) (by omega) (by omega) i a (by unfold zext; repeat' split; all_goals omega)) (fun i a b => h2 i (by omega) b), a10.c (e1 11 (by decide) (by decide)) (e1 10 (by decide) (by decide)) (h2 _ (by decide) (by decide))⟩
  unfold fD
  rw [xd 4 (by decide) (by decide) i a b, xd 5 (by decide) (by decide) i a b, xd 6 (by decide) (by decide) i a b, xd 7 (by decide) (by decide) i a b]
theorem zit_i {p : Prop} {a : Int} : zit p a a = a := by unfold zit; split <;> rfl
theorem q_To_copyFrom {d : Nat} (hd : 6 ≤ d) {μ : zMem} {s u : Nat} (hs : isTn s) (hu : isTn u) (hne : s + 34 ≤ u ∨ u + 34 ≤ s) : zSp d 0 0 y_To_copyFrom zT0 [vr (s + 1), vr (u + 1)] μ zT0 (fun q μ' => q = none ∧ cpT (imT μ u) (imT μ' s) ∧ ∀ k : Nat, (k < s + 1 ∨ s + 35 ≤ k) → μ' k = μ k) := by
  obtain ⟨⟨u1, u2, u3, u4, u5, u6, u7⟩, ⟨u8, u9, u10, u11, u12, u13, u14, u15, u16, u17, u18⟩, uv, ul⟩ := hs
  obtain ⟨⟨v1, v2, v3, v4, v5, v6, v7⟩, ⟨v8, v9, v10, v11, v12, v13, v14, v15, v16, v17, v18⟩, vv, vl⟩ := hu
  refine zSp.ss [vr (s + 1), vr (u + 1), vx 0] rfl (w_To_copyFrom (Nat.le_trans (by decide) hd)) rfl rfl ?_
  (try simp only [zit_e, Bool.and_eq_true, Bool.or_eq_true, Bool.not_eq_true', Bool.and_eq_false_iff, Bool.or_eq_false_iff, Bool.not_eq_false', zbe, zdt, zdf, zb2_p, zbp_0, zbp_1, zbp_inj, zbp_01, Bool.true_eq_false, Bool.false_eq_true, true_and, and_true, Decidable.not_not, Classical.not_not, implies_true, List.nil_append, List.cons_append, List.append_assoc, Option.some.injEq, Sum.inl.injEq, zSw_c, zSw_n]); (try simp only [zit_e, Bool.and_eq_true, Bool.or_eq_true, Bool.not_eq_true', Bool.and_eq_false_iff, Bool.or_eq_false_iff, Bool.not_eq_false', zbe, zdt, zdf, zb2_p, zbp_0, zbp_1, zbp_inj, zbp_01, Bool.true_eq_false, Bool.false_eq_true, true_and, and_true, Decidable.not_not, Classical.not_not, implies_true, List.nil_append, List.cons_append, List.append_assoc, Option.some.injEq, Sum.inl.injEq, zSw_c, zSw_n, u1, u2, u3, u4, u5, u6, u7, u8, u9, u10, u11, u12, u13, u14, u15, u16, u17, u18, v1, v2, v3, v4, v5, v6, v7, v8, v9, v10, v11, v12, v13, v14, v15, v16, v17, v18]); (try simp only [zi_cs, zi_c0, zii_cs, zii_c0, zl_cs, zl_c0, zll_cs, zll_c0, zr_cs, zr_c0, zrr_cs, zrr_c0, zxs_cs, zxs_c0, zxx_cs, zxx_c0, zfree_c0, zfree_c1, zfree_cs, zfree_cz, zlong_i, zlong_r, zlong_x, zset_0, zset_s, true_and, and_true, Option.some.injEq, Sum.inl.injEq, Sum.inr.injEq, zb2_p, zbp_0, zbp_1, zbp_inj, zbp_01, Nat.zero_add, Nat.reduceAdd, implies_true, List.nil_append, List.cons_append, List.append_assoc, Int.not_lt, Int.not_le, Decidable.not_not, Int.zero_add, Int.reduceLE, Int.reduceLT, Int.reduceEq, Int.reduceNe, Int.reduceAdd, Int.reduceSub, Int.reduceMul, Int.reduceNeg, Int.reduceToNat, Nat.reduceMul, Nat.reduceLT, Nat.reduceEqDiff, and_self, ite_true, ite_false, zx1, zx2, zRecv, List.length_cons, List.length_nil, ne_eq, not_true_eq_false, not_false_eq_true, true_or, or_true, or_false, false_or, and_false, false_and, zf01, zf10, reduceCtorEq, zSw_c, zSw_n, zm_r, zit_T, zit_F, false_implies, true_implies, u1, u2, u3, u4, u5, u6, u7, u8, u9, u10, u11, u12, u13, u14, u15, u16, u17, u18, v1, v2, v3, v4, v5, v6, v7, v8, v9, v10, v11, v12, v13, v14, v15, v16, v17, v18])
  refine zCw.use (q_Le_copyFrom (d := 4) (by decide) u8 v8 (by omega)) (by omega) (fun q μ1 e => ?_)
  obtain ⟨rfl, b1, b2, b3, b4, b5⟩ := e
  refine ⟨rfl, ?_⟩
  have hx : ∀ c : Nat, 3 ≤ c → c ≤ 9 → c = 3 ∨ c = 4 ∨ c = 5 ∨ c = 6 ∨ c = 7 ∨ c = 8 ∨ c = 9 := fun c p q => by omega
  refine zLoop.up 8 (fun j ρ m => ρ = [vr (s + 1), vr (u + 1), vi j] ∧ (∀ i : Int, 5 ≤ i → i < 7 → m (s + 2) i = μ (u + 2) i) ∧ (∀ c : Nat, 3 ≤ c → c ≤ 9 → ∀ i : Int, 0 ≤ i → i < zext c → m (s + c) i = μ (u + c) i) ∧ (∀ r : Nat, r < j → ∀ i : Int, 0 ≤ i → i < 4 → m (s + 11 + r) i = μ (u + 11 + r) i ∧ m (s + 20 + r) i = μ (u + 20 + r) i) ∧ ∀ k : Nat, (k < s + 1 ∨ s + 35 ≤ k) → m k = μ k) ⟨rfl, fun i i0 i1 => ?_, fun c p q i i0 i1 => ?_, fun r hr => by omega, fun k hk => ?_⟩ ?_
  · simp only [zcp_r]
    rw [zit_f (by omega), zit_f (by omega)]
    rcases (show i = 5 ∨ i = 6 by omega) with rfl | rfl
    · exact b3
    · exact b4
  · simp only [zcp_r]
    rcases hx c p q with rfl | rfl | rfl | rfl | rfl | rfl | rfl
    · have i1 : i < 7 := i1
      rw [zit_f (by omega), zit_f (by omega)]
      exact b1 i i0 i1
    · have i1 : i < 16 := i1
      rw [zit_f (by omega), zit_f (by omega)]
      exact (b2 i i0 i1).1
    · have i1 : i < 16 := i1
      rw [zit_f (by omega), zit_f (by omega)]
      exact (b2 i i0 i1).2.1
    · have i1 : i < 16 := i1
      rw [zit_f (by omega), zit_f (by omega)]
      exact (b2 i i0 i1).2.2.1
    · have i1 : i < 16 := i1
      rw [zit_f (by omega), zit_f (by omega)]
      exact (b2 i i0 i1).2.2.2
    · have i1 : i < 7 := i1
      rw [zit_f (by omega), zit_t (by omega), show (0 : Int) + (i - 0) = i by omega, b5 _ (by simp only [List.mem_cons, List.not_mem_nil, or_false]; omega)]
    · have i1 : i < 7 := i1
      rw [zit_t (by omega), zit_f (by omega), show (0 : Int) + (i - 0) = i by omega, b5 _ (by simp only [List.mem_cons, List.not_mem_nil, or_false]; omega)]
  · have : ∀ {m : zMem} {a b : Nat} {l : Int}, b ≠ k → zcp m a 0 b 0 l k = m k := fun {m a b l} hb => by
      funext i
      rw [zcp_r, zit_f (fun q => hb q.1.symm)]
    rw [this (by omega), this (by omega), b5 _ (by simp only [List.mem_cons, List.not_mem_nil, or_false]; omega)]
  rintro j ρ m hj ⟨rfl, i1, i2, i3, i4⟩
  (try simp only [zit_e, Bool.and_eq_true, Bool.or_eq_true, Bool.not_eq_true', Bool.and_eq_false_iff, Bool.or_eq_false_iff, Bool.not_eq_false', zbe, zdt, zdf, zb2_p, zbp_0, zbp_1, zbp_inj, zbp_01, Bool.true_eq_false, Bool.false_eq_true, true_and, and_true, Decidable.not_not, Classical.not_not, implies_true, List.nil_append, List.cons_append, List.append_assoc, Option.some.injEq, Sum.inl.injEq, zSw_c, zSw_n]); (try simp only [zit_e, Bool.and_eq_true, Bool.or_eq_true, Bool.not_eq_true', Bool.and_eq_false_iff, Bool.or_eq_false_iff, Bool.not_eq_false', zbe, zdt, zdf, zb2_p, zbp_0, zbp_1, zbp_inj, zbp_01, Bool.true_eq_false, Bool.false_eq_true, true_and, and_true, Decidable.not_not, Classical.not_not, implies_true, List.nil_append, List.cons_append, List.append_assoc, Option.some.injEq, Sum.inl.injEq, zSw_c, zSw_n, u1, u2, u3, u4, u5, u6, u7, u8, u9, u10, u11, u12, u13, u14, u15, u16, u17, u18, v1, v2, v3, v4, v5, v6, v7, v8, v9, v10, v11, v12, v13, v14, v15, v16, v17, v18]); (try simp only [zi_cs, zi_c0, zii_cs, zii_c0, zl_cs, zl_c0, zll_cs, zll_c0, zr_cs, zr_c0, zrr_cs, zrr_c0, zxs_cs, zxs_c0, zxx_cs, zxx_c0, zfree_c0, zfree_c1, zfree_cs, zfree_cz, zlong_i, zlong_r, zlong_x, zset_0, zset_s, true_and, and_true, Option.some.injEq, Sum.inl.injEq, Sum.inr.injEq, zb2_p, zbp_0, zbp_1, zbp_inj, zbp_01, Nat.zero_add, Nat.reduceAdd, implies_true, List.nil_append, List.cons_append, List.append_assoc, Int.not_lt, Int.not_le, Decidable.not_not, Int.zero_add, Int.reduceLE, Int.reduceLT, Int.reduceEq, Int.reduceNe, Int.reduceAdd, Int.reduceSub, Int.reduceMul, Int.reduceNeg, Int.reduceToNat, Nat.reduceMul, Nat.reduceLT, Nat.reduceEqDiff, and_self, ite_true, ite_false, zx1, zx2, zRecv, List.length_cons, List.length_nil, ne_eq, not_true_eq_false, not_false_eq_true, true_or, or_true, or_false, false_or, and_false, false_and, zf01, zf10, reduceCtorEq, zSw_c, zSw_n, zm_r, zit_T, zit_F, false_implies, true_implies, u1, u2, u3, u4, u5, u6, u7, u8, u9, u10, u11, u12, u13, u14, u15, u16, u17, u18, v1, v2, v3, v4, v5, v6, v7, v8, v9, v10, v11, v12, v13, v14, v15, v16, v17, v18])
  refine zif (fun c => ?_) (fun c => ?_)
  · obtain ⟨⟨p1, p2, p3⟩, p4, p5, p6⟩ := uv j (by omega) (by omega)
    obtain ⟨⟨q1, q2, q3⟩, q4, q5, q6⟩ := vv j (by omega) (by omega)
    rw [Int.toNat_natCast] at p1 p2 p3 p4 p5 p6 q1 q2 q3 q4 q5 q6
    rw [p1, p4, q1, q4]
    have ho : ∀ {a : Nat} {i : Int}, a ≠ s + 11 + j → a ≠ s + 20 + j → zcp (zcp m (u + 11 + j) 0 (s + 11 + j) 0 4) (u + 20 + j) 0 (s + 20 + j) 0 4 a i = m a i := fun {a i} h1 h2 => by
      rw [zcp_r, zit_f (by omega), zcp_r, zit_f (by omega)]
    refine ⟨by omega, by omega, by omega, by omega, by omega, by omega, by omega, by omega, by ((try simp only [zI_e]); (first | done | omega | skip)), znx (by omega) ⟨rfl, fun i i0 i9 => ?_, fun c p q i i0 i9 => ?_, fun r hr i i0 i9 => ?_, fun k hk => ?_⟩⟩
    · rw [ho (by omega) (by omega)]
      exact i1 i i0 i9
    · rw [ho (by omega) (by omega)]
      exact i2 c p q i i0 i9
    · by_cases er : r = j
      · subst er
        refine ⟨?_, ?_⟩
        · rw [zcp_r, zit_f (by omega), zcp_r, zit_t ⟨rfl, by omega, by omega⟩, show (0 : Int) + (i - 0) = i by omega, i4 _ (by omega)]
        · rw [zcp_r, zit_t ⟨rfl, by omega, by omega⟩, zcp_r, zit_f (by omega), show (0 : Int) + (i - 0) = i by omega, i4 _ (by omega)]
      · rw [ho (by omega) (by omega), ho (by omega) (by omega)]
        exact i3 r (by omega) i i0 i9
    · funext i
      rw [ho (by omega) (by omega), i4 k hk]
  · have : j = 8 := by omega
    subst this
    refine zLoop.up 6 (fun j ρ m => ρ = [vr (s + 1), vr (u + 1), vi j] ∧ (∀ i : Int, 5 ≤ i → i < 7 → m (s + 2) i = μ (u + 2) i) ∧ (∀ c : Nat, 3 ≤ c → c ≤ 9 → ∀ i : Int, 0 ≤ i → i < zext c → m (s + c) i = μ (u + c) i) ∧ (∀ r : Nat, r < 8 → ∀ i : Int, 0 ≤ i → i < 4 → m (s + 11 + r) i = μ (u + 11 + r) i ∧ m (s + 20 + r) i = μ (u + 20 + r) i) ∧ (∀ r : Nat, r < j → ∀ i : Int, 0 ≤ i → i < 385 → m (s + 29 + r) i = μ (u + 29 + r) i) ∧ ∀ k : Nat, (k < s + 1 ∨ s + 35 ≤ k) → m k = μ k) ⟨rfl, i1, i2, i3, fun r hr => by omega, i4⟩ ?_
    clear i1 i2 i3 i4
    rintro j ρ m hj ⟨rfl, i1, i2, i3, i5, i4⟩
    (try simp only [zit_e, Bool.and_eq_true, Bool.or_eq_true, Bool.not_eq_true', Bool.and_eq_false_iff, Bool.or_eq_false_iff, Bool.not_eq_false', zbe, zdt, zdf, zb2_p, zbp_0, zbp_1, zbp_inj, zbp_01, Bool.true_eq_false, Bool.false_eq_true, true_and, and_true, Decidable.not_not, Classical.not_not, implies_true, List.nil_append, List.cons_append, List.append_assoc, Option.some.injEq, Sum.inl.injEq, zSw_c, zSw_n]); (try simp only [zit_e, Bool.and_eq_true, Bool.or_eq_true, Bool.not_eq_true', Bool.and_eq_false_iff, Bool.or_eq_false_iff, Bool.not_eq_false', zbe, zdt, zdf, zb2_p, zbp_0, zbp_1, zbp_inj, zbp_01, Bool.true_eq_false, Bool.false_eq_true, true_and, and_true, Decidable.not_not, Classical.not_not, implies_true, List.nil_append, List.cons_append, List.append_assoc, Option.some.injEq, Sum.inl.injEq, zSw_c, zSw_n, u1, u2, u3, u4, u5, u6, u7, u8, u9, u10, u11, u12, u13, u14, u15, u16, u17, u18, v1, v2, v3, v4, v5, v6, v7, v8, v9, v10, v11, v12, v13, v14, v15, v16, v17, v18, zit_i]); (try simp only [zi_cs, zi_c0, zii_cs, zii_c0, zl_cs, zl_c0, zll_cs, zll_c0, zr_cs, zr_c0, zrr_cs, zrr_c0, zxs_cs, zxs_c0, zxx_cs, zxx_c0, zfree_c0, zfree_c1, zfree_cs, zfree_cz, zlong_i, zlong_r, zlong_x, zset_0, zset_s, true_and, and_true, Option.some.injEq, Sum.inl.injEq, Sum.inr.injEq, zb2_p, zbp_0, zbp_1, zbp_inj, zbp_01, Nat.zero_add, Nat.reduceAdd, implies_true, List.nil_append, List.cons_append, List.append_assoc, Int.not_lt, Int.not_le, Decidable.not_not, Int.zero_add, Int.reduceLE, Int.reduceLT, Int.reduceEq, Int.reduceNe, Int.reduceAdd, Int.reduceSub, Int.reduceMul, Int.reduceNeg, Int.reduceToNat, Nat.reduceMul, Nat.reduceLT, Nat.reduceEqDiff, and_self, ite_true, ite_false, zx1, zx2, zRecv, List.length_cons, List.length_nil, ne_eq, not_true_eq_false, not_false_eq_true, true_or, or_true, or_false, false_or, and_false, false_and, zf01, zf10, reduceCtorEq, zSw_c, zSw_n, zm_r, zit_T, zit_F, false_implies, true_implies, u1, u2, u3, u4, u5, u6, u7, u8, u9, u10, u11, u12, u13, u14, u15, u16, u17, u18, v1, v2, v3, v4, v5, v6, v7, v8, v9, v10, v11, v12, v13, v14, v15, v16, v17, v18, zit_i])
    refine zif (fun c => ?_) (fun c => ?_)
    · obtain ⟨p1, p2, p3⟩ := ul j (by omega) (by omega)
      obtain ⟨q1, q2, q3⟩ := vl j (by omega) (by omega)
      rw [Int.toNat_natCast] at p1 p2 p3 q1 q2 q3
      rw [p1, q1]
      have ho : ∀ {a : Nat} {i : Int}, a ≠ s + 29 + j → zcp m (u + 29 + j) 0 (s + 29 + j) 0 385 a i = m a i := fun {a i} h1 => by
        rw [zcp_r, zit_f (by omega)]
      refine ⟨by omega, by omega, by omega, by omega, by ((try simp only [zI_e]); (first | done | omega | skip)), znx (by omega) ⟨rfl, fun i i0 i9 => ?_, fun c p q i i0 i9 => ?_, fun r hr i i0 i9 => ?_, fun r hr i i0 i9 => ?_, fun k hk => ?_⟩⟩
      · rw [ho (by omega)]
        exact i1 i i0 i9
      · rw [ho (by omega)]
        exact i2 c p q i i0 i9
      · rw [ho (by omega), ho (by omega)]
        exact i3 r hr i i0 i9
      · by_cases er : r = j
        · subst er
          rw [zcp_r, zit_t (by omega), show (0 : Int) + (i - 0) = i by omega, i4 _ (by omega)]
        · rw [ho (by omega)]
          exact i5 r (by omega) i i0 i9
      · funext i
        rw [ho (by omega), i4 k hk]
    · have : j = 6 := by omega
      subst this
      rw [i4 (u + 1) (by omega)]
      have ho : ∀ {k : Nat} {j v : Int}, ∀ {n : zMem}, k ≠ s + 1 → zm n (s + 1) j v k = n k := fun hk => zm_off _ hk
      refine ⟨⟨fun j j0 j1 => ?_, fun j j0 j1 => ?_, fun c p q r1 r2 r3 i i0 i9 => ?_⟩, fun k hk => ?_⟩
      · show zm (zm (zm (zm (zm (zm m (s + 1) 6 (μ (u + 1) 6)) (s + 1) 7 (μ (u + 1) 7)) (s + 1) 8 (μ (u + 1) 8)) (s + 1) 9 (μ (u + 1) 9)) (s + 1) 10 (μ (u + 1) 10)) (s + 1) 11 (μ (u + 1) 11) (1 + s) j = μ (1 + u) j
        rw [Nat.add_comm 1 s, Nat.add_comm 1 u]
        rcases (show j = 6 ∨ j = 7 ∨ j = 8 ∨ j = 9 ∨ j = 10 ∨ j = 11 by omega) with rfl | rfl | rfl | rfl | rfl | rfl
        all_goals
          (repeat rw [zm_o (by omega)])
          rw [zm_s]
      · show zm (zm (zm (zm (zm (zm m (s + 1) 6 (μ (u + 1) 6)) (s + 1) 7 (μ (u + 1) 7)) (s + 1) 8 (μ (u + 1) 8)) (s + 1) 9 (μ (u + 1) 9)) (s + 1) 10 (μ (u + 1) 10)) (s + 1) 11 (μ (u + 1) 11) (2 + s) j = μ (2 + u) j
        rw [Nat.add_comm 2 s, Nat.add_comm 2 u, ho (by omega), ho (by omega), ho (by omega), ho (by omega), ho (by omega), ho (by omega)]
        exact i1 j j0 j1
      · show zm (zm (zm (zm (zm (zm m (s + 1) 6 (μ (u + 1) 6)) (s + 1) 7 (μ (u + 1) 7)) (s + 1) 8 (μ (u + 1) 8)) (s + 1) 9 (μ (u + 1) 9)) (s + 1) 10 (μ (u + 1) 10)) (s + 1) 11 (μ (u + 1) 11) (c + s) i = μ (c + u) i
        rw [ho (by omega), ho (by omega), ho (by omega), ho (by omega), ho (by omega), ho (by omega), Nat.add_comm c s, Nat.add_comm c u]
        by_cases c1 : c ≤ 9
        · exact i2 c p c1 i i0 i9
        by_cases c2 : c ≤ 18
        · have h4 : i < 4 := by
            unfold zext at i9
            repeat' split at i9
            all_goals omega
          have := (i3 (c - 11) (by omega) i i0 h4).1
          rwa [show s + 11 + (c - 11) = s + c by omega, show u + 11 + (c - 11) = u + c by omega] at this
        by_cases c3 : c ≤ 27
        · have h4 : i < 4 := by
            unfold zext at i9
            repeat' split at i9
            all_goals omega
          have := (i3 (c - 20) (by omega) i i0 h4).2
          rwa [show s + 20 + (c - 20) = s + c by omega, show u + 20 + (c - 20) = u + c by omega] at this
        · have h4 : i < 385 := by
            unfold zext at i9
            repeat' split at i9
            all_goals omega
          have := i5 (c - 29) (by omega) i i0 h4
          rwa [show s + 29 + (c - 29) = s + c by omega, show u + 29 + (c - 29) = u + c by omega] at this
      · rw [ho (by omega), ho (by omega), ho (by omega), ho (by omega), ho (by omega), ho (by omega)]
        exact i4 k hk
/-! image, back -/
theorem m_To_copyFrom : Cond.instanceMethod y_To_copyFrom.1 ∈ zTb ∧ Cond.selects y_To_copyFrom.1.cls y_To_copyFrom.1 y_To_copyFrom.1 ∈ zTb ∧ Cond.initialized y_To_copyFrom.1.cls ∈ zTb ∧ Cond.code y_To_copyFrom.1 y_To_copyFrom.2.1 y_To_copyFrom.2.2.1 y_To_copyFrom.2.2.2 ∈ zTb ∧ (y_To_copyFrom.1.cls ≠ "java/lang/invoke/MethodHandle" ∧ y_To_copyFrom.1.cls ≠ "java/lang/invoke/VarHandle" ∧ (parseMethodDescriptor y_To_copyFrom.1.desc).map (fun d => d.parameters.length) = some 1) ∧ y_To_copyFrom.2.2.1 ≤ 20 :=
  ⟨(zTb_in 1303 (by decide +kernel) (by decide +kernel)), (zTb_in 1304 (by decide +kernel) (by decide +kernel)), (zTb_in 140 (by decide +kernel) (by decide +kernel)), (zTb_in 1305 (by decide +kernel) (by decide +kernel)), by decide +kernel, by decide +kernel⟩
theorem lv_D_429 : zLv "DebtDoors" 429 y_To_copyFrom 1 9 := ⟨⟨(zTb_in 1302 (by decide +kernel) (by decide +kernel)), m_To_copyFrom.1, m_To_copyFrom.2.1, m_To_copyFrom.2.2⟩, _, rfl, rfl⟩
theorem nk_11_1 : zNk 11 1 = none := rfl
theorem nk_11_2 : zNk 11 2 = none := rfl
def y_D_image : zMt := (⟨"DebtDoors", "image", "(I)I"⟩, prog_1_method_63_code, 2, some .int)
theorem d_D_image_0 : decode prog_1_method_63_code 0 = .ok (.iload_n 1, 1) := by decide +kernel
theorem d_D_image_1 : decode prog_1_method_63_code 1 = .ok (.iconst 0, 1) := by decide +kernel
theorem d_D_image_2 : decode prog_1_method_63_code 2 = .ok (.iconst 1, 1) := by decide +kernel
theorem d_D_image_3 : decode prog_1_method_63_code 3 = .ok (.invokestatic 104, 3) := by decide +kernel
theorem d_D_image_6 : decode prog_1_method_63_code 6 = .ok (.ifCond .ne 9, 3) := by decide +kernel
theorem d_D_image_9 : decode prog_1_method_63_code 9 = .ok (.aload_n 0, 1) := by decide +kernel
theorem d_D_image_10 : decode prog_1_method_63_code 10 = .ok (.iconst (-1), 1) := by decide +kernel
theorem d_D_image_11 : decode prog_1_method_63_code 11 = .ok (.invokevirtual 108, 3) := by decide +kernel
theorem d_D_image_14 : decode prog_1_method_63_code 14 = .ok (.ireturn, 1) := by decide +kernel
theorem d_D_image_15 : decode prog_1_method_63_code 15 = .ok (.aload_n 0, 1) := by decide +kernel
theorem d_D_image_16 : decode prog_1_method_63_code 16 = .ok (.getfield 16, 3) := by decide +kernel
theorem d_D_image_19 : decode prog_1_method_63_code 19 = .ok (.iload_n 1, 1) := by decide +kernel
theorem d_D_image_20 : decode prog_1_method_63_code 20 = .ok (.aaload, 1) := by decide +kernel
theorem d_D_image_21 : decode prog_1_method_63_code 21 = .ok (.aload_n 0, 1) := by decide +kernel
theorem d_D_image_22 : decode prog_1_method_63_code 22 = .ok (.getfield 12, 3) := by decide +kernel
theorem d_D_image_25 : decode prog_1_method_63_code 25 = .ok (.invokevirtual 429, 3) := by decide +kernel
theorem d_D_image_28 : decode prog_1_method_63_code 28 = .ok (.aload_n 0, 1) := by decide +kernel
theorem d_D_image_29 : decode prog_1_method_63_code 29 = .ok (.getfield 20, 3) := by decide +kernel
theorem d_D_image_32 : decode prog_1_method_63_code 32 = .ok (.iload_n 1, 1) := by decide +kernel
theorem d_D_image_33 : decode prog_1_method_63_code 33 = .ok (.iconst 1, 1) := by decide +kernel
theorem d_D_image_34 : decode prog_1_method_63_code 34 = .ok (.bastore, 1) := by decide +kernel
theorem d_D_image_35 : decode prog_1_method_63_code 35 = .ok (.aload_n 0, 1) := by decide +kernel
theorem d_D_image_36 : decode prog_1_method_63_code 36 = .ok (.iconst 0, 1) := by decide +kernel
theorem d_D_image_37 : decode prog_1_method_63_code 37 = .ok (.invokevirtual 130, 3) := by decide +kernel
theorem d_D_image_40 : decode prog_1_method_63_code 40 = .ok (.ireturn, 1) := by decide +kernel
def w_D_image {d : Nat} (hd : 2 ≤ d) := (show SS ("DebtDoors", prog_1_method_63_code, 2) (some .int) d 0 0 0 0 _ from (sS (p1 := 15) (sIf (pn := 15) (tt := 9) (xC (rNot (rJ1 (tgt := 15) k_ne (rS p_D_between (Nat.le_trans (Nat.le_of_ble_eq_true rfl) hd) ls_D_104 (rAi (rAi (rAi rA0 (rIn 1 d_D_image_0 rfl)) (rI d_D_image_1 rfl)) (rI d_D_image_2 rfl)) (by decide) d_D_image_3) d_D_image_6 (by decide)))) (sRi (xV lv_D_108 (xA (rAi (rAr rA0 (rAn 0 d_D_image_9 rfl)) (rI d_D_image_10 rfl))) (by decide) d_D_image_11) d_D_image_14 rfl)) (sS (p1 := 28) (sV (xVv lv_D_429 (xA (rAr (rAr rA0 (rAa (rFr fl_D_16 nk_11_1 (rAn 0 d_D_image_15 rfl) d_D_image_16) (rIn 1 d_D_image_19 rfl) d_D_image_20)) (rFr fl_D_12 nk_11_0 (rAn 0 d_D_image_21 rfl) d_D_image_22))) (by decide) d_D_image_25)) (sS (p1 := 35) (sZs (rFr fl_D_20 nk_11_2 (rAn 0 d_D_image_28 rfl) d_D_image_29) (rIn 1 d_D_image_32 rfl) (xE (rI d_D_image_33 rfl)) d_D_image_34) (sRi (xV lv_D_130 (xA (rAi (rAr rA0 (rAn 0 d_D_image_35 rfl)) (rI d_D_image_36 rfl))) (by decide) d_D_image_37) d_D_image_40 rfl)))))
theorem nk_12_3 : zNk 12 3 = none := rfl
theorem nk_12_4 : zNk 12 4 = none := rfl
def y_M_image : zMt := (⟨"DebtDoorsModel", "image", "(I)I"⟩, prog_14_method_11_code, 3, some .int)
theorem d_M_image_0 : decode prog_14_method_11_code 0 = .ok (.iload_n 1, 1) := by decide +kernel
theorem d_M_image_1 : decode prog_14_method_11_code 1 = .ok (.iconst 0, 1) := by decide +kernel
theorem d_M_image_2 : decode prog_14_method_11_code 2 = .ok (.iconst 1, 1) := by decide +kernel
theorem d_M_image_3 : decode prog_14_method_11_code 3 = .ok (.invokestatic 123, 3) := by decide +kernel
theorem d_M_image_6 : decode prog_14_method_11_code 6 = .ok (.ifCond .ne 9, 3) := by decide +kernel
theorem d_M_image_9 : decode prog_14_method_11_code 9 = .ok (.aload_n 0, 1) := by decide +kernel
theorem d_M_image_10 : decode prog_14_method_11_code 10 = .ok (.iconst (-1), 1) := by decide +kernel
theorem d_M_image_11 : decode prog_14_method_11_code 11 = .ok (.invokevirtual 127, 3) := by decide +kernel
theorem d_M_image_14 : decode prog_14_method_11_code 14 = .ok (.ireturn, 1) := by decide +kernel
theorem d_M_image_15 : decode prog_14_method_11_code 15 = .ok (.iconst 0, 1) := by decide +kernel
theorem d_M_image_16 : decode prog_14_method_11_code 16 = .ok (.istore_n 2, 1) := by decide +kernel
theorem d_M_image_17 : decode prog_14_method_11_code 17 = .ok (.iload_n 2, 1) := by decide +kernel
theorem d_M_image_18 : decode prog_14_method_11_code 18 = .ok (.sipush 5764, 3) := by decide +kernel
theorem d_M_image_21 : decode prog_14_method_11_code 21 = .ok (.if_icmp .ge 27, 3) := by decide +kernel
theorem d_M_image_24 : decode prog_14_method_11_code 24 = .ok (.aload_n 0, 1) := by decide +kernel
theorem d_M_image_25 : decode prog_14_method_11_code 25 = .ok (.getfield 27, 3) := by decide +kernel
theorem d_M_image_28 : decode prog_14_method_11_code 28 = .ok (.sipush 5764, 3) := by decide +kernel
theorem d_M_image_31 : decode prog_14_method_11_code 31 = .ok (.iload_n 1, 1) := by decide +kernel
theorem d_M_image_32 : decode prog_14_method_11_code 32 = .ok (.imul, 1) := by decide +kernel
theorem d_M_image_33 : decode prog_14_method_11_code 33 = .ok (.iload_n 2, 1) := by decide +kernel
theorem d_M_image_34 : decode prog_14_method_11_code 34 = .ok (.iadd, 1) := by decide +kernel
theorem d_M_image_35 : decode prog_14_method_11_code 35 = .ok (.aload_n 0, 1) := by decide +kernel
theorem d_M_image_36 : decode prog_14_method_11_code 36 = .ok (.getfield 24, 3) := by decide +kernel
theorem d_M_image_39 : decode prog_14_method_11_code 39 = .ok (.iload_n 2, 1) := by decide +kernel
theorem d_M_image_40 : decode prog_14_method_11_code 40 = .ok (.iaload, 1) := by decide +kernel
theorem d_M_image_41 : decode prog_14_method_11_code 41 = .ok (.iastore, 1) := by decide +kernel
theorem d_M_image_42 : decode prog_14_method_11_code 42 = .ok (.iinc 2 1, 3) := by decide +kernel
theorem d_M_image_45 : decode prog_14_method_11_code 45 = .ok (.goto (-28), 3) := by decide +kernel
theorem d_M_image_48 : decode prog_14_method_11_code 48 = .ok (.aload_n 0, 1) := by decide +kernel
theorem d_M_image_49 : decode prog_14_method_11_code 49 = .ok (.getfield 30, 3) := by decide +kernel
theorem d_M_image_52 : decode prog_14_method_11_code 52 = .ok (.iload_n 1, 1) := by decide +kernel
theorem d_M_image_53 : decode prog_14_method_11_code 53 = .ok (.iconst 1, 1) := by decide +kernel
theorem d_M_image_54 : decode prog_14_method_11_code 54 = .ok (.bastore, 1) := by decide +kernel
theorem d_M_image_55 : decode prog_14_method_11_code 55 = .ok (.aload_n 0, 1) := by decide +kernel
theorem d_M_image_56 : decode prog_14_method_11_code 56 = .ok (.iconst 0, 1) := by decide +kernel
theorem d_M_image_57 : decode prog_14_method_11_code 57 = .ok (.invokevirtual 14, 3) := by decide +kernel
theorem d_M_image_60 : decode prog_14_method_11_code 60 = .ok (.ireturn, 1) := by decide +kernel
def w_M_image {d : Nat} (hd : 2 ≤ d) := (show SS ("DebtDoorsModel", prog_14_method_11_code, 3) (some .int) d 0 0 0 0 _ from (sS (p1 := 15) (sIf (pn := 15) (tt := 9) (xC (rNot (rJ1 (tgt := 15) k_ne (rS p_M_lies (Nat.le_trans (Nat.le_of_ble_eq_true rfl) hd) ls_M_123 (rAi (rAi (rAi rA0 (rIn 1 d_M_image_0 rfl)) (rI d_M_image_1 rfl)) (rI d_M_image_2 rfl)) (by decide) d_M_image_3) d_M_image_6 (by decide)))) (sRi (xV lv_M_127 (xA (rAi (rAr rA0 (rAn 0 d_M_image_9 rfl)) (rI d_M_image_10 rfl))) (by decide) d_M_image_11) d_M_image_14 rfl)) (sS (p1 := 48) (sS (p1 := 17) (sIn 2 (xE (rI d_M_image_15 rfl)) d_M_image_16 rfl (by decide)) (sLp (ps := 42) (tt := 24) (pn := 48) (p1 := 0) (p2 := 0) (xC (rNot (rJ2 (tgt := 48) j_ge (rIn 2 d_M_image_17 rfl) (rSi d_M_image_18 rfl) d_M_image_21 (by decide)))) (sAs (rFr fl_M_27 nk_12_3 (rAn 0 d_M_image_24 rfl) d_M_image_25) (r2 o_add (r2 o_mul (rSi d_M_image_28 rfl) (rIn 1 d_M_image_31 rfl) d_M_image_32) (rIn 2 d_M_image_33 rfl) d_M_image_34) (xE (rIa (rFr fl_M_24 nk_12_2 (rAn 0 d_M_image_35 rfl) d_M_image_36) (rIn 2 d_M_image_39 rfl) d_M_image_40)) d_M_image_41) (sGo (pn := 17) (sInc d_M_image_42 (by decide)) d_M_image_45 (by decide)))) (sS (p1 := 55) (sZs (rFr fl_M_30 nk_12_4 (rAn 0 d_M_image_48 rfl) d_M_image_49) (rIn 1 d_M_image_52 rfl) (xE (rI d_M_image_53 rfl)) d_M_image_54) (sRi (xV lv_M_14 (xA (rAi (rAr rA0 (rAn 0 d_M_image_55 rfl)) (rI d_M_image_56 rfl))) (by decide) d_M_image_57) d_M_image_60 rfl)))))
def y_D_back : zMt := (⟨"DebtDoors", "back", "(I)I"⟩, prog_1_method_64_code, 2, some .int)
theorem d_D_back_0 : decode prog_1_method_64_code 0 = .ok (.iload_n 1, 1) := by decide +kernel
theorem d_D_back_1 : decode prog_1_method_64_code 1 = .ok (.iconst 0, 1) := by decide +kernel
theorem d_D_back_2 : decode prog_1_method_64_code 2 = .ok (.iconst 1, 1) := by decide +kernel
theorem d_D_back_3 : decode prog_1_method_64_code 3 = .ok (.invokestatic 104, 3) := by decide +kernel
theorem d_D_back_6 : decode prog_1_method_64_code 6 = .ok (.ifCond .ne 9, 3) := by decide +kernel
theorem d_D_back_9 : decode prog_1_method_64_code 9 = .ok (.aload_n 0, 1) := by decide +kernel
theorem d_D_back_10 : decode prog_1_method_64_code 10 = .ok (.iconst (-1), 1) := by decide +kernel
theorem d_D_back_11 : decode prog_1_method_64_code 11 = .ok (.invokevirtual 108, 3) := by decide +kernel
theorem d_D_back_14 : decode prog_1_method_64_code 14 = .ok (.ireturn, 1) := by decide +kernel
theorem d_D_back_15 : decode prog_1_method_64_code 15 = .ok (.aload_n 0, 1) := by decide +kernel
theorem d_D_back_16 : decode prog_1_method_64_code 16 = .ok (.getfield 20, 3) := by decide +kernel
theorem d_D_back_19 : decode prog_1_method_64_code 19 = .ok (.iload_n 1, 1) := by decide +kernel
theorem d_D_back_20 : decode prog_1_method_64_code 20 = .ok (.baload, 1) := by decide +kernel
theorem d_D_back_21 : decode prog_1_method_64_code 21 = .ok (.ifCond .ne 10, 3) := by decide +kernel
theorem d_D_back_24 : decode prog_1_method_64_code 24 = .ok (.aload_n 0, 1) := by decide +kernel
theorem d_D_back_25 : decode prog_1_method_64_code 25 = .ok (.bipush (-2), 2) := by decide +kernel
theorem d_D_back_27 : decode prog_1_method_64_code 27 = .ok (.invokevirtual 108, 3) := by decide +kernel
theorem d_D_back_30 : decode prog_1_method_64_code 30 = .ok (.ireturn, 1) := by decide +kernel
theorem d_D_back_31 : decode prog_1_method_64_code 31 = .ok (.aload_n 0, 1) := by decide +kernel
theorem d_D_back_32 : decode prog_1_method_64_code 32 = .ok (.getfield 12, 3) := by decide +kernel
theorem d_D_back_35 : decode prog_1_method_64_code 35 = .ok (.aload_n 0, 1) := by decide +kernel
theorem d_D_back_36 : decode prog_1_method_64_code 36 = .ok (.getfield 16, 3) := by decide +kernel
theorem d_D_back_39 : decode prog_1_method_64_code 39 = .ok (.iload_n 1, 1) := by decide +kernel
theorem d_D_back_40 : decode prog_1_method_64_code 40 = .ok (.aaload, 1) := by decide +kernel
theorem d_D_back_41 : decode prog_1_method_64_code 41 = .ok (.invokevirtual 429, 3) := by decide +kernel
theorem d_D_back_44 : decode prog_1_method_64_code 44 = .ok (.aload_n 0, 1) := by decide +kernel
theorem d_D_back_45 : decode prog_1_method_64_code 45 = .ok (.getfield 34, 3) := by decide +kernel
theorem d_D_back_48 : decode prog_1_method_64_code 48 = .ok (.invokevirtual 127, 3) := by decide +kernel
theorem d_D_back_51 : decode prog_1_method_64_code 51 = .ok (.aload_n 0, 1) := by decide +kernel
theorem d_D_back_52 : decode prog_1_method_64_code 52 = .ok (.iconst 0, 1) := by decide +kernel
theorem d_D_back_53 : decode prog_1_method_64_code 53 = .ok (.invokevirtual 130, 3) := by decide +kernel
theorem d_D_back_56 : decode prog_1_method_64_code 56 = .ok (.ireturn, 1) := by decide +kernel
def w_D_back {d : Nat} (hd : 2 ≤ d) := (show SS ("DebtDoors", prog_1_method_64_code, 2) (some .int) d 0 0 0 0 _ from (sS (p1 := 15) (sIf (pn := 15) (tt := 9) (xC (rNot (rJ1 (tgt := 15) k_ne (rS p_D_between (Nat.le_trans (Nat.le_of_ble_eq_true rfl) hd) ls_D_104 (rAi (rAi (rAi rA0 (rIn 1 d_D_back_0 rfl)) (rI d_D_back_1 rfl)) (rI d_D_back_2 rfl)) (by decide) d_D_back_3) d_D_back_6 (by decide)))) (sRi (xV lv_D_108 (xA (rAi (rAr rA0 (rAn 0 d_D_back_9 rfl)) (rI d_D_back_10 rfl))) (by decide) d_D_back_11) d_D_back_14 rfl)) (sS (p1 := 31) (sIf (pn := 31) (tt := 24) (xC (rNot (rJ1 (tgt := 31) k_ne (rZa (rFr fl_D_20 nk_11_2 (rAn 0 d_D_back_15 rfl) d_D_back_16) (rIn 1 d_D_back_19 rfl) d_D_back_20) d_D_back_21 (by decide)))) (sRi (xV lv_D_108 (xA (rAi (rAr rA0 (rAn 0 d_D_back_24 rfl)) (rB d_D_back_25 rfl))) (by decide) d_D_back_27) d_D_back_30 rfl)) (sS (p1 := 44) (sV (xVv lv_D_429 (xA (rAr (rAr rA0 (rFr fl_D_12 nk_11_0 (rAn 0 d_D_back_31 rfl) d_D_back_32)) (rAa (rFr fl_D_16 nk_11_1 (rAn 0 d_D_back_35 rfl) d_D_back_36) (rIn 1 d_D_back_39 rfl) d_D_back_40))) (by decide) d_D_back_41)) (sS (p1 := 51) (sV (xVv lv_D_127 (xA (rAr rA0 (rFr fl_D_34 nk_11_4 (rAn 0 d_D_back_44 rfl) d_D_back_45))) (by decide) d_D_back_48)) (sRi (xV lv_D_130 (xA (rAi (rAr rA0 (rAn 0 d_D_back_51 rfl)) (rI d_D_back_52 rfl))) (by decide) d_D_back_53) d_D_back_56 rfl))))))
def y_M_back : zMt := (⟨"DebtDoorsModel", "back", "(I)I"⟩, prog_14_method_12_code, 3, some .int)
theorem d_M_back_0 : decode prog_14_method_12_code 0 = .ok (.iload_n 1, 1) := by decide +kernel
theorem d_M_back_1 : decode prog_14_method_12_code 1 = .ok (.iconst 0, 1) := by decide +kernel
theorem d_M_back_2 : decode prog_14_method_12_code 2 = .ok (.iconst 1, 1) := by decide +kernel
theorem d_M_back_3 : decode prog_14_method_12_code 3 = .ok (.invokestatic 123, 3) := by decide +kernel
theorem d_M_back_6 : decode prog_14_method_12_code 6 = .ok (.ifCond .ne 9, 3) := by decide +kernel
theorem d_M_back_9 : decode prog_14_method_12_code 9 = .ok (.aload_n 0, 1) := by decide +kernel
theorem d_M_back_10 : decode prog_14_method_12_code 10 = .ok (.iconst (-1), 1) := by decide +kernel
theorem d_M_back_11 : decode prog_14_method_12_code 11 = .ok (.invokevirtual 127, 3) := by decide +kernel
theorem d_M_back_14 : decode prog_14_method_12_code 14 = .ok (.ireturn, 1) := by decide +kernel
theorem d_M_back_15 : decode prog_14_method_12_code 15 = .ok (.aload_n 0, 1) := by decide +kernel
theorem d_M_back_16 : decode prog_14_method_12_code 16 = .ok (.getfield 30, 3) := by decide +kernel
theorem d_M_back_19 : decode prog_14_method_12_code 19 = .ok (.iload_n 1, 1) := by decide +kernel
theorem d_M_back_20 : decode prog_14_method_12_code 20 = .ok (.baload, 1) := by decide +kernel
theorem d_M_back_21 : decode prog_14_method_12_code 21 = .ok (.ifCond .ne 10, 3) := by decide +kernel
theorem d_M_back_24 : decode prog_14_method_12_code 24 = .ok (.aload_n 0, 1) := by decide +kernel
theorem d_M_back_25 : decode prog_14_method_12_code 25 = .ok (.bipush (-2), 2) := by decide +kernel
theorem d_M_back_27 : decode prog_14_method_12_code 27 = .ok (.invokevirtual 127, 3) := by decide +kernel
theorem d_M_back_30 : decode prog_14_method_12_code 30 = .ok (.ireturn, 1) := by decide +kernel
theorem d_M_back_31 : decode prog_14_method_12_code 31 = .ok (.iconst 0, 1) := by decide +kernel
theorem d_M_back_32 : decode prog_14_method_12_code 32 = .ok (.istore_n 2, 1) := by decide +kernel
theorem d_M_back_33 : decode prog_14_method_12_code 33 = .ok (.iload_n 2, 1) := by decide +kernel
theorem d_M_back_34 : decode prog_14_method_12_code 34 = .ok (.sipush 5764, 3) := by decide +kernel
theorem d_M_back_37 : decode prog_14_method_12_code 37 = .ok (.if_icmp .ge 27, 3) := by decide +kernel
theorem d_M_back_40 : decode prog_14_method_12_code 40 = .ok (.aload_n 0, 1) := by decide +kernel
theorem d_M_back_41 : decode prog_14_method_12_code 41 = .ok (.getfield 24, 3) := by decide +kernel
theorem d_M_back_44 : decode prog_14_method_12_code 44 = .ok (.iload_n 2, 1) := by decide +kernel
theorem d_M_back_45 : decode prog_14_method_12_code 45 = .ok (.aload_n 0, 1) := by decide +kernel
theorem d_M_back_46 : decode prog_14_method_12_code 46 = .ok (.getfield 27, 3) := by decide +kernel
theorem d_M_back_49 : decode prog_14_method_12_code 49 = .ok (.sipush 5764, 3) := by decide +kernel
theorem d_M_back_52 : decode prog_14_method_12_code 52 = .ok (.iload_n 1, 1) := by decide +kernel
theorem d_M_back_53 : decode prog_14_method_12_code 53 = .ok (.imul, 1) := by decide +kernel
theorem d_M_back_54 : decode prog_14_method_12_code 54 = .ok (.iload_n 2, 1) := by decide +kernel
theorem d_M_back_55 : decode prog_14_method_12_code 55 = .ok (.iadd, 1) := by decide +kernel
theorem d_M_back_56 : decode prog_14_method_12_code 56 = .ok (.iaload, 1) := by decide +kernel
theorem d_M_back_57 : decode prog_14_method_12_code 57 = .ok (.iastore, 1) := by decide +kernel
theorem d_M_back_58 : decode prog_14_method_12_code 58 = .ok (.iinc 2 1, 3) := by decide +kernel
theorem d_M_back_61 : decode prog_14_method_12_code 61 = .ok (.goto (-28), 3) := by decide +kernel
theorem d_M_back_64 : decode prog_14_method_12_code 64 = .ok (.aload_n 0, 1) := by decide +kernel
theorem d_M_back_65 : decode prog_14_method_12_code 65 = .ok (.iconst 0, 1) := by decide +kernel
theorem d_M_back_66 : decode prog_14_method_12_code 66 = .ok (.invokevirtual 130, 3) := by decide +kernel
theorem d_M_back_69 : decode prog_14_method_12_code 69 = .ok (.ireturn, 1) := by decide +kernel
def w_M_back {d : Nat} (hd : 2 ≤ d) := (show SS ("DebtDoorsModel", prog_14_method_12_code, 3) (some .int) d 0 0 0 0 _ from (sS (p1 := 15) (sIf (pn := 15) (tt := 9) (xC (rNot (rJ1 (tgt := 15) k_ne (rS p_M_lies (Nat.le_trans (Nat.le_of_ble_eq_true rfl) hd) ls_M_123 (rAi (rAi (rAi rA0 (rIn 1 d_M_back_0 rfl)) (rI d_M_back_1 rfl)) (rI d_M_back_2 rfl)) (by decide) d_M_back_3) d_M_back_6 (by decide)))) (sRi (xV lv_M_127 (xA (rAi (rAr rA0 (rAn 0 d_M_back_9 rfl)) (rI d_M_back_10 rfl))) (by decide) d_M_back_11) d_M_back_14 rfl)) (sS (p1 := 31) (sIf (pn := 31) (tt := 24) (xC (rNot (rJ1 (tgt := 31) k_ne (rZa (rFr fl_M_30 nk_12_4 (rAn 0 d_M_back_15 rfl) d_M_back_16) (rIn 1 d_M_back_19 rfl) d_M_back_20) d_M_back_21 (by decide)))) (sRi (xV lv_M_127 (xA (rAi (rAr rA0 (rAn 0 d_M_back_24 rfl)) (rB d_M_back_25 rfl))) (by decide) d_M_back_27) d_M_back_30 rfl)) (sS (p1 := 64) (sS (p1 := 33) (sIn 2 (xE (rI d_M_back_31 rfl)) d_M_back_32 rfl (by decide)) (sLp (ps := 58) (tt := 40) (pn := 64) (p1 := 0) (p2 := 0) (xC (rNot (rJ2 (tgt := 64) j_ge (rIn 2 d_M_back_33 rfl) (rSi d_M_back_34 rfl) d_M_back_37 (by decide)))) (sAs (rFr fl_M_24 nk_12_2 (rAn 0 d_M_back_40 rfl) d_M_back_41) (rIn 2 d_M_back_44 rfl) (xE (rIa (rFr fl_M_27 nk_12_3 (rAn 0 d_M_back_45 rfl) d_M_back_46) (r2 o_add (r2 o_mul (rSi d_M_back_49 rfl) (rIn 1 d_M_back_52 rfl) d_M_back_53) (rIn 2 d_M_back_54 rfl) d_M_back_55) d_M_back_56)) d_M_back_57) (sGo (pn := 33) (sInc d_M_back_58 (by decide)) d_M_back_61 (by decide)))) (sRi (xV lv_M_130 (xA (rAi (rAr rA0 (rAn 0 d_M_back_64 rfl)) (rI d_M_back_65 rfl))) (by decide) d_M_back_66) d_M_back_69 rfl)))))
set_option maxRecDepth 200000 in
theorem LC_image {k0 : Int} : LC y_D_image y_M_image [vi k0] := LC.mk (fun k μ h0 h1 hJ => by
  have hr := hJ.rD h0 h1
  refine ⟨zit (0 ≤ k0 ∧ k0 ≤ 1) 0 (-1), fun v μ1 => v = 0 ∧ ∃ X, cpT μ (imT X (imS k0)) ∧ (∀ c : Nat, (c < imS k0 + 1 ∨ imS k0 + 35 ≤ c) → X c = μ c) ∧ μ1 = zm (zm X 104 k0 1) 0 15 0, fun μ1 v μ2 => v = 0 ∧ ∃ Y, (∀ i : Int, Y 358 i = zit (5764 * k0 ≤ i ∧ i < 5764 * k0 + 5764) (μ1 357 (i - 5764 * k0)) (μ1 358 i)) ∧ zfc [358] μ1 Y ∧ μ2 = zm (zm Y 359 k0 1) 355 0 0, by unfold zit; split <;> omega, ?_, ?_, ?_⟩
  · refine zCw.use (zSp.ss [vr 0, vi k0] rfl (w_D_image (d := 100) (by decide)) rfl rfl ?_) (by decide) (fun q μ' e => e)
    (try simp only [zit_e, Bool.and_eq_true, Bool.or_eq_true, Bool.not_eq_true', Bool.and_eq_false_iff, Bool.or_eq_false_iff, Bool.not_eq_false', zbe, zdt, zdf, zb2_p, zbp_0, zbp_1, zbp_inj, zbp_01, Bool.true_eq_false, Bool.false_eq_true, true_and, and_true, Decidable.not_not, Classical.not_not, implies_true, List.nil_append, List.cons_append, List.append_assoc, Option.some.injEq, Sum.inl.injEq, zSw_c, zSw_n]); (try simp only [zit_e, Bool.and_eq_true, Bool.or_eq_true, Bool.not_eq_true', Bool.and_eq_false_iff, Bool.or_eq_false_iff, Bool.not_eq_false', zbe, zdt, zdf, zb2_p, zbp_0, zbp_1, zbp_inj, zbp_01, Bool.true_eq_false, Bool.false_eq_true, true_and, and_true, Decidable.not_not, Classical.not_not, implies_true, List.nil_append, List.cons_append, List.append_assoc, Option.some.injEq, Sum.inl.injEq, zSw_c, zSw_n, zc_0, zc_1, f_D_between, g_D_between]); (try simp only [zi_cs, zi_c0, zii_cs, zii_c0, zl_cs, zl_c0, zll_cs, zll_c0, zr_cs, zr_c0, zrr_cs, zrr_c0, zxs_cs, zxs_c0, zxx_cs, zxx_c0, zfree_c0, zfree_c1, zfree_cs, zfree_cz, zlong_i, zlong_r, zlong_x, zset_0, zset_s, true_and, and_true, Option.some.injEq, Sum.inl.injEq, Sum.inr.injEq, zb2_p, zbp_0, zbp_1, zbp_inj, zbp_01, Nat.zero_add, Nat.reduceAdd, implies_true, List.nil_append, List.cons_append, List.append_assoc, Int.not_lt, Int.not_le, Decidable.not_not, Int.zero_add, Int.reduceLE, Int.reduceLT, Int.reduceEq, Int.reduceNe, Int.reduceAdd, Int.reduceSub, Int.reduceMul, Int.reduceNeg, Int.reduceToNat, Nat.reduceMul, Nat.reduceLT, Nat.reduceEqDiff, and_self, ite_true, ite_false, zx1, zx2, zRecv, List.length_cons, List.length_nil, ne_eq, not_true_eq_false, not_false_eq_true, true_or, or_true, or_false, false_or, and_false, false_and, zf01, zf10, reduceCtorEq, zSw_c, zSw_n, zm_r, zit_T, zit_F, false_implies, true_implies, zc_0, zc_1, f_D_between, g_D_between])
    refine zif (fun c => ?_) (fun c => ?_)
    · rw [zit_f c]
      exact rfD_w (by omega) (by decide) hr ⟨_, rfl, OD.no rfl (by decide) PJc.rf⟩
    rw [zit_t (by omega)]
    have hz : zpa 35 k0 = imS k0 + 1 ∧ zO 9 (zpa 35 k0) = true := by
      rcases (show k0 = 0 ∨ k0 = 1 by omega) with rfl | rfl
      · exact ⟨by decide +kernel, by decide +kernel⟩
      · exact ⟨by decide +kernel, by decide +kernel⟩
    have hs : isTn (imS k0) ∧ (imS k0 = 35 ∨ imS k0 = 69) := by
      rcases (show k0 = 0 ∨ k0 = 1 by omega) with rfl | rfl
      · exact ⟨isTn_1, Or.inl rfl⟩
      · exact ⟨isTn_2, Or.inr rfl⟩
    refine ⟨by omega, hz.2, ?_⟩
    rw [hz.1]
    refine zCw.use (q_To_copyFrom (d := 6) (s := imS k0) (u := 0) (by decide) hs.1 isTn_0 (by omega)) (by omega) (fun q X e => ?_)
    obtain ⟨rfl, e1, e2⟩ := e
    refine ⟨rfl, by omega, by omega, acD_w (by omega) ⟨_, rfl, OD.yes (by decide) (((show HM μ X from fun c hc => e2 c (by omega)).sm (by omega)).sm (by omega)) ⟨rfl, X, e1, e2, rfl⟩⟩⟩
  · intro μ1 hm
    have hr := hJ.rM h0 h1 hm
    refine zCw.use (zSp.ss [vr 355, vi k0, vx 0] rfl (w_M_image (d := 100) (by decide)) rfl rfl ?_) (by decide) (fun q μ' e => e)
    (try simp only [zit_e, Bool.and_eq_true, Bool.or_eq_true, Bool.not_eq_true', Bool.and_eq_false_iff, Bool.or_eq_false_iff, Bool.not_eq_false', zbe, zdt, zdf, zb2_p, zbp_0, zbp_1, zbp_inj, zbp_01, Bool.true_eq_false, Bool.false_eq_true, true_and, and_true, Decidable.not_not, Classical.not_not, implies_true, List.nil_append, List.cons_append, List.append_assoc, Option.some.injEq, Sum.inl.injEq, zSw_c, zSw_n]); (try simp only [zit_e, Bool.and_eq_true, Bool.or_eq_true, Bool.not_eq_true', Bool.and_eq_false_iff, Bool.or_eq_false_iff, Bool.not_eq_false', zbe, zdt, zdf, zb2_p, zbp_0, zbp_1, zbp_inj, zbp_01, Bool.true_eq_false, Bool.false_eq_true, true_and, and_true, Decidable.not_not, Classical.not_not, implies_true, List.nil_append, List.cons_append, List.append_assoc, Option.some.injEq, Sum.inl.injEq, zSw_c, zSw_n, zc_355, f_M_lies, g_M_lies]); (try simp only [zi_cs, zi_c0, zii_cs, zii_c0, zl_cs, zl_c0, zll_cs, zll_c0, zr_cs, zr_c0, zrr_cs, zrr_c0, zxs_cs, zxs_c0, zxx_cs, zxx_c0, zfree_c0, zfree_c1, zfree_cs, zfree_cz, zlong_i, zlong_r, zlong_x, zset_0, zset_s, true_and, and_true, Option.some.injEq, Sum.inl.injEq, Sum.inr.injEq, zb2_p, zbp_0, zbp_1, zbp_inj, zbp_01, Nat.zero_add, Nat.reduceAdd, implies_true, List.nil_append, List.cons_append, List.append_assoc, Int.not_lt, Int.not_le, Decidable.not_not, Int.zero_add, Int.reduceLE, Int.reduceLT, Int.reduceEq, Int.reduceNe, Int.reduceAdd, Int.reduceSub, Int.reduceMul, Int.reduceNeg, Int.reduceToNat, Nat.reduceMul, Nat.reduceLT, Nat.reduceEqDiff, and_self, ite_true, ite_false, zx1, zx2, zRecv, List.length_cons, List.length_nil, ne_eq, not_true_eq_false, not_false_eq_true, true_or, or_true, or_false, false_or, and_false, false_and, zf01, zf10, reduceCtorEq, zSw_c, zSw_n, zm_r, zit_T, zit_F, false_implies, true_implies, zc_355, f_M_lies, g_M_lies])
    refine zif (fun c => ?_) (fun c => ?_)
    · rw [zit_f c]
      exact rfM_w (by omega) (by decide) hr ⟨_, rfl, OM.no rfl (by decide) PJm.rf⟩
    have c : 0 ≤ k0 ∧ k0 ≤ 1 := Classical.not_not.mp c
    rw [zit_t c]
    obtain ⟨N, hN⟩ : ∃ N : Nat, N = 5764 := ⟨_, rfl⟩
    refine zLoop.up N (fun j ρ ν => ρ = [vr 355, vi k0, vi j] ∧ (∀ i : Int, ν 358 i = zit (5764 * k0 ≤ i ∧ i < 5764 * k0 + j) (μ1 357 (i - 5764 * k0)) (μ1 358 i)) ∧ zfc [358] μ1 ν) ⟨rfl, fun i => by rw [zit_f (by omega)], zfc.rf⟩ ?_
    rintro j ρ ν hj ⟨rfl, e1, e2⟩
    (try simp only [zit_e, Bool.and_eq_true, Bool.or_eq_true, Bool.not_eq_true', Bool.and_eq_false_iff, Bool.or_eq_false_iff, Bool.not_eq_false', zbe, zdt, zdf, zb2_p, zbp_0, zbp_1, zbp_inj, zbp_01, Bool.true_eq_false, Bool.false_eq_true, true_and, and_true, Decidable.not_not, Classical.not_not, implies_true, List.nil_append, List.cons_append, List.append_assoc, Option.some.injEq, Sum.inl.injEq, zSw_c, zSw_n]); (try simp only [zit_e, Bool.and_eq_true, Bool.or_eq_true, Bool.not_eq_true', Bool.and_eq_false_iff, Bool.or_eq_false_iff, Bool.not_eq_false', zbe, zdt, zdf, zb2_p, zbp_0, zbp_1, zbp_inj, zbp_01, Bool.true_eq_false, Bool.false_eq_true, true_and, and_true, Decidable.not_not, Classical.not_not, implies_true, List.nil_append, List.cons_append, List.append_assoc, Option.some.injEq, Sum.inl.injEq, zSw_c, zSw_n, zc_355]); (try simp only [zi_cs, zi_c0, zii_cs, zii_c0, zl_cs, zl_c0, zll_cs, zll_c0, zr_cs, zr_c0, zrr_cs, zrr_c0, zxs_cs, zxs_c0, zxx_cs, zxx_c0, zfree_c0, zfree_c1, zfree_cs, zfree_cz, zlong_i, zlong_r, zlong_x, zset_0, zset_s, true_and, and_true, Option.some.injEq, Sum.inl.injEq, Sum.inr.injEq, zb2_p, zbp_0, zbp_1, zbp_inj, zbp_01, Nat.zero_add, Nat.reduceAdd, implies_true, List.nil_append, List.cons_append, List.append_assoc, Int.not_lt, Int.not_le, Decidable.not_not, Int.zero_add, Int.reduceLE, Int.reduceLT, Int.reduceEq, Int.reduceNe, Int.reduceAdd, Int.reduceSub, Int.reduceMul, Int.reduceNeg, Int.reduceToNat, Nat.reduceMul, Nat.reduceLT, Nat.reduceEqDiff, and_self, ite_true, ite_false, zx1, zx2, zRecv, List.length_cons, List.length_nil, ne_eq, not_true_eq_false, not_false_eq_true, true_or, or_true, or_false, false_or, and_false, false_and, zf01, zf10, reduceCtorEq, zSw_c, zSw_n, zm_r, zit_T, zit_F, false_implies, true_implies, zc_355])
    refine zif (fun c2 => ?_) (fun c2 => ?_)
    · refine ⟨by ((try simp only [zI_e]); (first | done | omega | skip)), by ((try simp only [zI_e]); (first | done | omega | skip)), by omega, by omega, by ((try simp only [zI_e]); (first | done | omega | skip)), znx (by omega) ⟨rfl, fun i => ?_, e2.zm (by decide)⟩⟩
      rw [e2 357 (by decide), e1]
      by_cases ei : i = 5764 * k0 + j
      · rw [zit_t ei, zit_t (by omega), ei, show 5764 * k0 + (j : Int) - 5764 * k0 = j by omega]
      · rw [zit_f ei]
        by_cases e3 : 5764 * k0 ≤ i ∧ i < 5764 * k0 + j
        · rw [zit_t e3, zit_t (by omega)]
        · rw [zit_f e3, zit_f (by omega)]
    · have ej : (j : Int) = 5764 := by omega
      rw [ej] at e1
      refine ⟨by omega, by omega, acM_w (by omega) ⟨_, rfl, OM.yes (by decide) (((e2.hc (by simp)).sm (by omega)).sm (by omega)) ⟨rfl, ν, e1, e2, rfl⟩⟩⟩
  · rintro c v1 v2 μ1 μ2 hm ⟨rfl, X, x1, x2, eD⟩ hc ⟨rfl, Y, y1, y2, rfl⟩
    have ck : k0 = 0 ∨ k0 = 1 := by
      have : 0 ≤ k0 ∧ k0 ≤ 1 := Classical.byContradiction (fun q => by rw [zit_f q] at c; omega)
      omega
    have hs : imS k0 = 35 ∨ imS k0 = 69 := by
      rcases ck with rfl | rfl
      · exact Or.inl rfl
      · exact Or.inr rfl
    have hJ1 := hJ.m HC.rf hm
    refine ⟨rfl, JJ.eqD eD (JJ.ok (k := k) ?_ (by omega) rfl)⟩
    obtain ⟨z1, z2, z3, z4, z5, z6, z7⟩ := hJ1
    have kx : ∀ c : Nat, (c < 36 ∨ 105 ≤ c) → zm X 104 k0 1 c = μ c := fun c hc => by rw [zm_off _ (by omega), x2 c (by omega)]
    have ky : ∀ c : Nat, c ≠ 358 → c ≠ 359 → zm Y 359 k0 1 c = μ1 c := fun c h1 h2 => by rw [zm_off _ h2, y2 c (by simp only [List.mem_cons, List.not_mem_nil, or_false]; omega)]
    refine ⟨z1.c (fun c p q i _ _ => by rw [kx c (by omega)]) (fun i _ _ => by rw [ky 357 (by decide) (by decide)]), z2.c (fun c p q => kx c (by omega)) (ky 369 (by decide) (by decide)) (by rw [ky 355 (by decide) (by decide)]), ?_, z4.c (by rw [kx 321 (by omega)]) (by rw [kx 321 (by omega)]) (kx 322 (by omega)) (by rw [ky 355 (by decide) (by decide)]) (by rw [ky 355 (by decide) (by decide)]) (ky 361 (by decide) (by decide)) (ky 362 (by decide) (by decide)), z5.c (Int.le_refl _) (by rw [kx 0 (by omega)]) (by rw [kx 0 (by omega)]) (by rw [kx 0 (by omega)]) (kx 354 (by omega)) (by rw [ky 355 (by decide) (by decide)]) (by rw [ky 355 (by decide) (by decide)]) (by rw [ky 355 (by decide) (by decide)]) (ky 356 (by decide) (by decide)), z6.c (by rw [kx 351 (by omega)]) (kx 352 (by omega)) (by rw [ky 355 (by decide) (by decide)]) (ky 384 (by decide) (by decide)) (ky 385 (by decide) (by decide)) (ky 386 (by decide) (by decide)), by rw [kx 326 (by omega)]; exact z7⟩
    intro q hq
    have h3 := z3 q hq
    by_cases e : q = k0
    · subst e
      refine ⟨by rw [zm_s, zm_s], Or.inr ⟨zm_s, ?_⟩⟩
      have : imT (zm X 104 q 1) (imS q) = fun c => zm X 104 q 1 (c + imS q) := rfl
      refine (z1.cp x1 (κ' := imK (zm Y 359 q 1) q) (fun i i0 i1 => ?_)).c (fun c p r i _ _ => ?_) (fun i _ _ => rfl)
      · show zm Y 359 q 1 358 (5764 * q + i) = μ1 357 i
        rw [zm_off _ (by decide), y1, zit_t (by omega), show 5764 * q + i - 5764 * q = i by omega]
      · show zm X 104 q 1 (c + imS q) i = X (c + imS q) i
        rw [zm_off _ (by omega)]
    · rw [zm_o (by omega), zm_o (by omega), y2 359 (by decide), x2 104 (by omega)]
      refine ⟨h3.1, h3.2.imp id (fun g => ⟨g.1, g.2.c (fun c p r i _ _ => ?_) (fun i i0 i1 => ?_)⟩)⟩
      · show zm X 104 k0 1 (c + imS q) i = μ (c + imS q) i
        have hq : imS q = 35 ∧ imS k0 = 69 ∨ imS q = 69 ∧ imS k0 = 35 := by
          rcases ck with rfl | rfl <;> rcases hq with rfl | rfl
          · exact absurd rfl e
          · exact Or.inr ⟨rfl, rfl⟩
          · exact Or.inl ⟨rfl, rfl⟩
          · exact absurd rfl e
        rw [zm_off _ (by omega), x2 _ (by omega)]
      · show zm Y 359 k0 1 358 (5764 * q + i) = μ1 358 (5764 * q + i)
        rw [zm_off _ (by decide), y1, zit_f (by omega)])
set_option maxRecDepth 200000 in
theorem LC_back {k0 : Int} : LC y_D_back y_M_back [vi k0] := LC.mk (fun k μ h0 h1 hJ => by
  have hr := hJ.rD h0 h1
  have hI := hJ.2.2.1
  refine ⟨zit (0 ≤ k0 ∧ k0 ≤ 1) (zit (μ 104 k0 = 0) (-2) 0) (-1), fun v μ1 => v = 0 ∧ ∃ X, cpT (imT μ (imS k0)) X ∧ (∀ c : Nat, (c < 1 ∨ 35 ≤ c) → X c = μ c) ∧ μ1 = zm (zm X 111 3 0) 0 15 0, fun μ1 v μ2 => v = 0 ∧ ∃ Y, (∀ i : Int, Y 357 i = zit (0 ≤ i ∧ i < 5764) (μ1 358 (5764 * k0 + i)) (μ1 357 i)) ∧ zfc [357] μ1 Y ∧ μ2 = zm (zm Y 355 28 0) 355 0 0, by unfold zit; repeat' split; all_goals omega, ?_, ?_, ?_⟩
  · refine zCw.use (zSp.ss [vr 0, vi k0] rfl (w_D_back (d := 100) (by decide)) rfl rfl ?_) (by decide) (fun q μ' e => e)
    (try simp only [zit_e, Bool.and_eq_true, Bool.or_eq_true, Bool.not_eq_true', Bool.and_eq_false_iff, Bool.or_eq_false_iff, Bool.not_eq_false', zbe, zdt, zdf, zb2_p, zbp_0, zbp_1, zbp_inj, zbp_01, Bool.true_eq_false, Bool.false_eq_true, true_and, and_true, Decidable.not_not, Classical.not_not, implies_true, List.nil_append, List.cons_append, List.append_assoc, Option.some.injEq, Sum.inl.injEq, zSw_c, zSw_n]); (try simp only [zit_e, Bool.and_eq_true, Bool.or_eq_true, Bool.not_eq_true', Bool.and_eq_false_iff, Bool.or_eq_false_iff, Bool.not_eq_false', zbe, zdt, zdf, zb2_p, zbp_0, zbp_1, zbp_inj, zbp_01, Bool.true_eq_false, Bool.false_eq_true, true_and, and_true, Decidable.not_not, Classical.not_not, implies_true, List.nil_append, List.cons_append, List.append_assoc, Option.some.injEq, Sum.inl.injEq, zSw_c, zSw_n, zc_0, zc_1, zc_111, f_D_between, g_D_between]); (try simp only [zi_cs, zi_c0, zii_cs, zii_c0, zl_cs, zl_c0, zll_cs, zll_c0, zr_cs, zr_c0, zrr_cs, zrr_c0, zxs_cs, zxs_c0, zxx_cs, zxx_c0, zfree_c0, zfree_c1, zfree_cs, zfree_cz, zlong_i, zlong_r, zlong_x, zset_0, zset_s, true_and, and_true, Option.some.injEq, Sum.inl.injEq, Sum.inr.injEq, zb2_p, zbp_0, zbp_1, zbp_inj, zbp_01, Nat.zero_add, Nat.reduceAdd, implies_true, List.nil_append, List.cons_append, List.append_assoc, Int.not_lt, Int.not_le, Decidable.not_not, Int.zero_add, Int.reduceLE, Int.reduceLT, Int.reduceEq, Int.reduceNe, Int.reduceAdd, Int.reduceSub, Int.reduceMul, Int.reduceNeg, Int.reduceToNat, Nat.reduceMul, Nat.reduceLT, Nat.reduceEqDiff, and_self, ite_true, ite_false, zx1, zx2, zRecv, List.length_cons, List.length_nil, ne_eq, not_true_eq_false, not_false_eq_true, true_or, or_true, or_false, false_or, and_false, false_and, zf01, zf10, reduceCtorEq, zSw_c, zSw_n, zm_r, zit_T, zit_F, false_implies, true_implies, zc_0, zc_1, zc_111, f_D_between, g_D_between])
    refine zif (fun c => ?_) (fun c => ?_)
    · rw [zit_f c]
      exact rfD_w (by omega) (by decide) hr ⟨_, rfl, OD.no rfl (by decide) PJc.rf⟩
    rw [zit_t (by omega)]
    have hb := (hI k0 (by omega))
    have hz : zpa 35 k0 = imS k0 + 1 := by
      rcases (show k0 = 0 ∨ k0 = 1 by omega) with rfl | rfl
      · decide +kernel
      · decide +kernel
    have hs : isTn (imS k0) ∧ (imS k0 = 35 ∨ imS k0 = 69) := by
      rcases (show k0 = 0 ∨ k0 = 1 by omega) with rfl | rfl
      · exact ⟨isTn_1, Or.inl rfl⟩
      · exact ⟨isTn_2, Or.inr rfl⟩
    refine ⟨by omega, ?_⟩
    refine zif (fun c2 => ?_) (fun c2 => ?_)
    · rw [zit_t c2]
      exact rfD_w (by omega) (by decide) hr ⟨_, rfl, OD.no rfl (by decide) PJc.rf⟩
    rw [zit_f c2, hz]
    refine ⟨by omega, ?_⟩
    refine zCw.use (q_To_copyFrom (d := 6) (s := 0) (u := imS k0) (by decide) isTn_0 hs.1 (by omega)) (by omega) (fun q X e => ?_)
    obtain ⟨rfl, e1, e2⟩ := e
    refine ⟨rfl, fgD_w (by omega) ⟨rfl, acD_w (by omega) ⟨_, rfl, OD.yes (by decide) (((show HM μ X from fun c hc => e2 c (by omega)).sm (by omega)).sm (by omega)) ⟨rfl, X, e1, fun c hc => e2 c (by omega), rfl⟩⟩⟩⟩
  · intro μ1 hm
    have hr := hJ.rM h0 h1 hm
    refine zCw.use (zSp.ss [vr 355, vi k0, vx 0] rfl (w_M_back (d := 100) (by decide)) rfl rfl ?_) (by decide) (fun q μ' e => e)
    (try simp only [zit_e, Bool.and_eq_true, Bool.or_eq_true, Bool.not_eq_true', Bool.and_eq_false_iff, Bool.or_eq_false_iff, Bool.not_eq_false', zbe, zdt, zdf, zb2_p, zbp_0, zbp_1, zbp_inj, zbp_01, Bool.true_eq_false, Bool.false_eq_true, true_and, and_true, Decidable.not_not, Classical.not_not, implies_true, List.nil_append, List.cons_append, List.append_assoc, Option.some.injEq, Sum.inl.injEq, zSw_c, zSw_n]); (try simp only [zit_e, Bool.and_eq_true, Bool.or_eq_true, Bool.not_eq_true', Bool.and_eq_false_iff, Bool.or_eq_false_iff, Bool.not_eq_false', zbe, zdt, zdf, zb2_p, zbp_0, zbp_1, zbp_inj, zbp_01, Bool.true_eq_false, Bool.false_eq_true, true_and, and_true, Decidable.not_not, Classical.not_not, implies_true, List.nil_append, List.cons_append, List.append_assoc, Option.some.injEq, Sum.inl.injEq, zSw_c, zSw_n, zc_355, f_M_lies, g_M_lies]); (try simp only [zi_cs, zi_c0, zii_cs, zii_c0, zl_cs, zl_c0, zll_cs, zll_c0, zr_cs, zr_c0, zrr_cs, zrr_c0, zxs_cs, zxs_c0, zxx_cs, zxx_c0, zfree_c0, zfree_c1, zfree_cs, zfree_cz, zlong_i, zlong_r, zlong_x, zset_0, zset_s, true_and, and_true, Option.some.injEq, Sum.inl.injEq, Sum.inr.injEq, zb2_p, zbp_0, zbp_1, zbp_inj, zbp_01, Nat.zero_add, Nat.reduceAdd, implies_true, List.nil_append, List.cons_append, List.append_assoc, Int.not_lt, Int.not_le, Decidable.not_not, Int.zero_add, Int.reduceLE, Int.reduceLT, Int.reduceEq, Int.reduceNe, Int.reduceAdd, Int.reduceSub, Int.reduceMul, Int.reduceNeg, Int.reduceToNat, Nat.reduceMul, Nat.reduceLT, Nat.reduceEqDiff, and_self, ite_true, ite_false, zx1, zx2, zRecv, List.length_cons, List.length_nil, ne_eq, not_true_eq_false, not_false_eq_true, true_or, or_true, or_false, false_or, and_false, false_and, zf01, zf10, reduceCtorEq, zSw_c, zSw_n, zm_r, zit_T, zit_F, false_implies, true_implies, zc_355, f_M_lies, g_M_lies])
    refine zif (fun c => ?_) (fun c => ?_)
    · rw [zit_f c]
      exact rfM_w (by omega) (by decide) hr ⟨_, rfl, OM.no rfl (by decide) PJm.rf⟩
    have c : 0 ≤ k0 ∧ k0 ≤ 1 := Classical.not_not.mp c
    have hb := (hI k0 (by omega))
    rw [zit_t c, hm 359 (by decide), hb.1]
    refine ⟨by omega, ?_⟩
    refine zif (fun c2 => ?_) (fun c2 => ?_)
    · rw [zit_t c2]
      exact rfM_w (by omega) (by decide) hr ⟨_, rfl, OM.no rfl (by decide) PJm.rf⟩
    rw [zit_f c2]
    obtain ⟨N, hN⟩ : ∃ N : Nat, N = 5764 := ⟨_, rfl⟩
    refine zLoop.up N (fun j ρ ν => ρ = [vr 355, vi k0, vi j] ∧ (∀ i : Int, ν 357 i = zit (0 ≤ i ∧ i < j) (μ1 358 (5764 * k0 + i)) (μ1 357 i)) ∧ zfc [357] μ1 ν) ⟨rfl, fun i => by rw [zit_f (by omega)], zfc.rf⟩ ?_
    rintro j ρ ν hj ⟨rfl, e1, e2⟩
    (try simp only [zit_e, Bool.and_eq_true, Bool.or_eq_true, Bool.not_eq_true', Bool.and_eq_false_iff, Bool.or_eq_false_iff, Bool.not_eq_false', zbe, zdt, zdf, zb2_p, zbp_0, zbp_1, zbp_inj, zbp_01, Bool.true_eq_false, Bool.false_eq_true, true_and, and_true, Decidable.not_not, Classical.not_not, implies_true, List.nil_append, List.cons_append, List.append_assoc, Option.some.injEq, Sum.inl.injEq, zSw_c, zSw_n]); (try simp only [zit_e, Bool.and_eq_true, Bool.or_eq_true, Bool.not_eq_true', Bool.and_eq_false_iff, Bool.or_eq_false_iff, Bool.not_eq_false', zbe, zdt, zdf, zb2_p, zbp_0, zbp_1, zbp_inj, zbp_01, Bool.true_eq_false, Bool.false_eq_true, true_and, and_true, Decidable.not_not, Classical.not_not, implies_true, List.nil_append, List.cons_append, List.append_assoc, Option.some.injEq, Sum.inl.injEq, zSw_c, zSw_n, zc_355]); (try simp only [zi_cs, zi_c0, zii_cs, zii_c0, zl_cs, zl_c0, zll_cs, zll_c0, zr_cs, zr_c0, zrr_cs, zrr_c0, zxs_cs, zxs_c0, zxx_cs, zxx_c0, zfree_c0, zfree_c1, zfree_cs, zfree_cz, zlong_i, zlong_r, zlong_x, zset_0, zset_s, true_and, and_true, Option.some.injEq, Sum.inl.injEq, Sum.inr.injEq, zb2_p, zbp_0, zbp_1, zbp_inj, zbp_01, Nat.zero_add, Nat.reduceAdd, implies_true, List.nil_append, List.cons_append, List.append_assoc, Int.not_lt, Int.not_le, Decidable.not_not, Int.zero_add, Int.reduceLE, Int.reduceLT, Int.reduceEq, Int.reduceNe, Int.reduceAdd, Int.reduceSub, Int.reduceMul, Int.reduceNeg, Int.reduceToNat, Nat.reduceMul, Nat.reduceLT, Nat.reduceEqDiff, and_self, ite_true, ite_false, zx1, zx2, zRecv, List.length_cons, List.length_nil, ne_eq, not_true_eq_false, not_false_eq_true, true_or, or_true, or_false, false_or, and_false, false_and, zf01, zf10, reduceCtorEq, zSw_c, zSw_n, zm_r, zit_T, zit_F, false_implies, true_implies, zc_355])
    refine zif (fun c2 => ?_) (fun c2 => ?_)
    · refine ⟨by omega, by omega, ⟨⟨by ((try simp only [zI_e]); (first | done | omega | skip)), by ((try simp only [zI_e]); (first | done | omega | skip))⟩, by omega, by omega⟩, by ((try simp only [zI_e]); (first | done | omega | skip)), znx (by omega) ⟨rfl, fun i => ?_, e2.zm (by decide)⟩⟩
      rw [e2 358 (by decide), e1]
      by_cases ei : i = j
      · rw [zit_t ei, zit_t (by omega), ei]
      · rw [zit_f ei]
        by_cases e3 : 0 ≤ i ∧ i < j
        · rw [zit_t e3, zit_t (by omega)]
        · rw [zit_f e3, zit_f (by omega)]
    · have ej : (j : Int) = 5764 := by omega
      rw [ej] at e1
      refine seM_w (by omega) ⟨_, rfl, OM.yes (by decide) (((e2.hc (by simp)).sm (by omega)).sm (by omega)) ⟨rfl, ν, e1, e2, rfl⟩⟩
  · rintro c v1 v2 μ1 μ2 hm ⟨rfl, X, x1, x2, eD⟩ hc ⟨rfl, Y, y1, y2, rfl⟩
    have ck : k0 = 0 ∨ k0 = 1 := by
      have : 0 ≤ k0 ∧ k0 ≤ 1 := Classical.byContradiction (fun q => by rw [zit_f q] at c; omega)
      omega
    have c1 : ¬ μ 104 k0 = 0 := fun q => by
      rw [zit_t (by omega), zit_t q] at c
      omega
    have hJ1 := hJ.m HC.rf hm
    refine ⟨rfl, JJ.eqD eD (JJ.ok (k := k) (JJ.fo ?_) (by omega) rfl)⟩
    obtain ⟨z1, z2, z3, z4, z5, z6, z7⟩ := hJ1
    have kx : ∀ c : Nat, (c < 1 ∨ 35 ≤ c) → X c = μ c := x2
    have ky : ∀ c : Nat, c ≠ 357 → Y c = μ1 c := fun c h1 => y2 c (by simp only [List.mem_cons, List.not_mem_nil, or_false]; omega)
    have hT := ((z3 k0 ck).2.resolve_left c1).2
    exact ⟨hT.cp x1 (fun i i0 i1 => by rw [y1, zit_t ⟨i0, i1⟩]; rfl), z2.c (fun c p q => kx c (by omega)) (ky 369 (by decide)) (by rw [ky 355 (by decide)]), z3.c (fun c p q => kx c (by omega)) (ky 358 (by decide)) (ky 359 (by decide)), z4.c (by rw [kx 321 (by omega)]) (by rw [kx 321 (by omega)]) (kx 322 (by omega)) (by rw [ky 355 (by decide)]) (by rw [ky 355 (by decide)]) (ky 361 (by decide)) (ky 362 (by decide)), z5.c (Int.le_refl _) (by rw [kx 0 (by omega)]) (by rw [kx 0 (by omega)]) (by rw [kx 0 (by omega)]) (kx 354 (by omega)) (by rw [ky 355 (by decide)]) (by rw [ky 355 (by decide)]) (by rw [ky 355 (by decide)]) (ky 356 (by decide)), z6.c (by rw [kx 351 (by omega)]) (kx 352 (by omega)) (by rw [ky 355 (by decide)]) (ky 384 (by decide)) (ky 385 (by decide)) (ky 386 (by decide)), by rw [kx 326 (by omega)]; exact z7⟩)

