/-! how a debt grows, for what it is sold -/
def odD (kind amount : Int) : Int := if kind = 1 then 0 else amount
def odS (W : Int → Int) (F : Option (List Cls)) (kind amount : Int) : Int := match F with
  | none => odD kind amount
  | some cls => tlV (if kind = 1 then 99 else 9999) (odD kind amount) (lstT W kind cls)
theorem fillW_67 {a0 a1 a2 a3 a4 a5 a6 a7 a8 a9 b6 b7 i : Int} {w : Int → Int} : zit (i = 7) a7 (zit (i = 6) a6 (fillW a0 a1 a2 a3 a4 a5 b6 b7 a8 a9 w i)) = fillW a0 a1 a2 a3 a4 a5 a6 a7 a8 a9 w i := by
  unfold fillW
  by_cases h7 : i = 7
  · subst h7
    simp [zit]
  by_cases h6 : i = 6
  · subst h6
    simp [zit]
  rw [zit_f h7, zit_f h6, zit_f h7, zit_f h6, zit_f h7, zit_f h6]
theorem fl_Ru_64 : zFl "DebtDoors$Rules" 64 1 3 := ⟨_, rfl, by decide, (zTb_in 196 (by decide +kernel) (by decide +kernel)), rfl⟩
theorem fl_Ru_67 : zFl "DebtDoors$Rules" 67 1 1 := ⟨_, rfl, by decide, (zTb_in 187 (by decide +kernel) (by decide +kernel)), rfl⟩
theorem fl_Ru_70 : zFl "DebtDoors$Rules" 70 1 2 := ⟨_, rfl, by decide, (zTb_in 192 (by decide +kernel) (by decide +kernel)), rfl⟩
theorem lv_Ru_24 : zLv "DebtDoors$Rules" 24 y_Le_owed 2 1 := ⟨⟨(zTb_in 657 (by decide +kernel) (by decide +kernel)), m_Le_owed.1, m_Le_owed.2.1, m_Le_owed.2.2⟩, _, rfl, rfl⟩
theorem fl_Ru_79 : zFl "DebtDoors$Rules" 79 1 4 := ⟨_, rfl, by decide, (zTb_in 199 (by decide +kernel) (by decide +kernel)), rfl⟩
def y_Ru_ofDebt : zMt := (⟨"DebtDoors$Rules", "ofDebt", "(LDebtDoors$Town;II)I"⟩, prog_9_method_4_code, 9, some .int)
theorem d_Ru_ofDebt_0 : decode prog_9_method_4_code 0 = .ok (.aload_n 1, 1) := by decide +kernel
theorem d_Ru_ofDebt_1 : decode prog_9_method_4_code 1 = .ok (.getfield 18, 3) := by decide +kernel
theorem d_Ru_ofDebt_4 : decode prog_9_method_4_code 4 = .ok (.astore 4, 2) := by decide +kernel
theorem d_Ru_ofDebt_6 : decode prog_9_method_4_code 6 = .ok (.aload 4, 2) := by decide +kernel
theorem d_Ru_ofDebt_8 : decode prog_9_method_4_code 8 = .ok (.getfield 64, 3) := by decide +kernel
theorem d_Ru_ofDebt_11 : decode prog_9_method_4_code 11 = .ok (.iload_n 2, 1) := by decide +kernel
theorem d_Ru_ofDebt_12 : decode prog_9_method_4_code 12 = .ok (.iaload, 1) := by decide +kernel
theorem d_Ru_ofDebt_13 : decode prog_9_method_4_code 13 = .ok (.istore 5, 2) := by decide +kernel
theorem d_Ru_ofDebt_15 : decode prog_9_method_4_code 15 = .ok (.aload_n 1, 1) := by decide +kernel
theorem d_Ru_ofDebt_16 : decode prog_9_method_4_code 16 = .ok (.getfield 38, 3) := by decide +kernel
theorem d_Ru_ofDebt_19 : decode prog_9_method_4_code 19 = .ok (.iconst (-1), 1) := by decide +kernel
theorem d_Ru_ofDebt_20 : decode prog_9_method_4_code 20 = .ok (.if_icmp .eq 126, 3) := by decide +kernel
theorem d_Ru_ofDebt_23 : decode prog_9_method_4_code 23 = .ok (.aload 4, 2) := by decide +kernel
theorem d_Ru_ofDebt_25 : decode prog_9_method_4_code 25 = .ok (.getfield 67, 3) := by decide +kernel
theorem d_Ru_ofDebt_28 : decode prog_9_method_4_code 28 = .ok (.iload_n 2, 1) := by decide +kernel
theorem d_Ru_ofDebt_29 : decode prog_9_method_4_code 29 = .ok (.iaload, 1) := by decide +kernel
theorem d_Ru_ofDebt_30 : decode prog_9_method_4_code 30 = .ok (.istore 6, 2) := by decide +kernel
theorem d_Ru_ofDebt_32 : decode prog_9_method_4_code 32 = .ok (.aload 4, 2) := by decide +kernel
theorem d_Ru_ofDebt_34 : decode prog_9_method_4_code 34 = .ok (.getfield 70, 3) := by decide +kernel
theorem d_Ru_ofDebt_37 : decode prog_9_method_4_code 37 = .ok (.iload_n 2, 1) := by decide +kernel
theorem d_Ru_ofDebt_38 : decode prog_9_method_4_code 38 = .ok (.iaload, 1) := by decide +kernel
theorem d_Ru_ofDebt_39 : decode prog_9_method_4_code 39 = .ok (.istore 7, 2) := by decide +kernel
theorem d_Ru_ofDebt_41 : decode prog_9_method_4_code 41 = .ok (.aload_n 0, 1) := by decide +kernel
theorem d_Ru_ofDebt_42 : decode prog_9_method_4_code 42 = .ok (.aload_n 1, 1) := by decide +kernel
theorem d_Ru_ofDebt_43 : decode prog_9_method_4_code 43 = .ok (.iload 6, 2) := by decide +kernel
theorem d_Ru_ofDebt_45 : decode prog_9_method_4_code 45 = .ok (.iload 7, 2) := by decide +kernel
theorem d_Ru_ofDebt_47 : decode prog_9_method_4_code 47 = .ok (.aload 4, 2) := by decide +kernel
theorem d_Ru_ofDebt_49 : decode prog_9_method_4_code 49 = .ok (.iload 6, 2) := by decide +kernel
theorem d_Ru_ofDebt_51 : decode prog_9_method_4_code 51 = .ok (.iload 7, 2) := by decide +kernel
theorem d_Ru_ofDebt_53 : decode prog_9_method_4_code 53 = .ok (.invokevirtual 24, 3) := by decide +kernel
theorem d_Ru_ofDebt_56 : decode prog_9_method_4_code 56 = .ok (.aload 4, 2) := by decide +kernel
theorem d_Ru_ofDebt_58 : decode prog_9_method_4_code 58 = .ok (.iload 7, 2) := by decide +kernel
theorem d_Ru_ofDebt_60 : decode prog_9_method_4_code 60 = .ok (.iload 6, 2) := by decide +kernel
theorem d_Ru_ofDebt_62 : decode prog_9_method_4_code 62 = .ok (.invokevirtual 24, 3) := by decide +kernel
theorem d_Ru_ofDebt_65 : decode prog_9_method_4_code 65 = .ok (.invokevirtual 46, 3) := by decide +kernel
theorem d_Ru_ofDebt_68 : decode prog_9_method_4_code 68 = .ok (.aload_n 0, 1) := by decide +kernel
theorem d_Ru_ofDebt_69 : decode prog_9_method_4_code 69 = .ok (.getfield 12, 3) := by decide +kernel
theorem d_Ru_ofDebt_72 : decode prog_9_method_4_code 72 = .ok (.getfield 73, 3) := by decide +kernel
theorem d_Ru_ofDebt_75 : decode prog_9_method_4_code 75 = .ok (.bipush 6, 2) := by decide +kernel
theorem d_Ru_ofDebt_77 : decode prog_9_method_4_code 77 = .ok (.iload 5, 2) := by decide +kernel
theorem d_Ru_ofDebt_79 : decode prog_9_method_4_code 79 = .ok (.iastore, 1) := by decide +kernel
theorem d_Ru_ofDebt_80 : decode prog_9_method_4_code 80 = .ok (.aload_n 0, 1) := by decide +kernel
theorem d_Ru_ofDebt_81 : decode prog_9_method_4_code 81 = .ok (.getfield 12, 3) := by decide +kernel
theorem d_Ru_ofDebt_84 : decode prog_9_method_4_code 84 = .ok (.getfield 73, 3) := by decide +kernel
theorem d_Ru_ofDebt_87 : decode prog_9_method_4_code 87 = .ok (.bipush 7, 2) := by decide +kernel
theorem d_Ru_ofDebt_89 : decode prog_9_method_4_code 89 = .ok (.aload 4, 2) := by decide +kernel
theorem d_Ru_ofDebt_91 : decode prog_9_method_4_code 91 = .ok (.getfield 76, 3) := by decide +kernel
theorem d_Ru_ofDebt_94 : decode prog_9_method_4_code 94 = .ok (.aload 4, 2) := by decide +kernel
theorem d_Ru_ofDebt_96 : decode prog_9_method_4_code 96 = .ok (.getfield 79, 3) := by decide +kernel
theorem d_Ru_ofDebt_99 : decode prog_9_method_4_code 99 = .ok (.iload_n 2, 1) := by decide +kernel
theorem d_Ru_ofDebt_100 : decode prog_9_method_4_code 100 = .ok (.iaload, 1) := by decide +kernel
theorem d_Ru_ofDebt_101 : decode prog_9_method_4_code 101 = .ok (.isub, 1) := by decide +kernel
theorem d_Ru_ofDebt_102 : decode prog_9_method_4_code 102 = .ok (.iastore, 1) := by decide +kernel
theorem d_Ru_ofDebt_103 : decode prog_9_method_4_code 103 = .ok (.aload_n 0, 1) := by decide +kernel
theorem d_Ru_ofDebt_104 : decode prog_9_method_4_code 104 = .ok (.aload_n 1, 1) := by decide +kernel
theorem d_Ru_ofDebt_105 : decode prog_9_method_4_code 105 = .ok (.getfield 42, 3) := by decide +kernel
theorem d_Ru_ofDebt_108 : decode prog_9_method_4_code 108 = .ok (.aload_n 1, 1) := by decide +kernel
theorem d_Ru_ofDebt_109 : decode prog_9_method_4_code 109 = .ok (.getfield 38, 3) := by decide +kernel
theorem d_Ru_ofDebt_112 : decode prog_9_method_4_code 112 = .ok (.aaload, 1) := by decide +kernel
theorem d_Ru_ofDebt_113 : decode prog_9_method_4_code 113 = .ok (.iload_n 3, 1) := by decide +kernel
theorem d_Ru_ofDebt_114 : decode prog_9_method_4_code 114 = .ok (.invokevirtual 50, 3) := by decide +kernel
theorem d_Ru_ofDebt_117 : decode prog_9_method_4_code 117 = .ok (.istore 8, 2) := by decide +kernel
theorem d_Ru_ofDebt_119 : decode prog_9_method_4_code 119 = .ok (.iload 8, 2) := by decide +kernel
theorem d_Ru_ofDebt_121 : decode prog_9_method_4_code 121 = .ok (.ldc 54, 2) := by decide +kernel
theorem d_Ru_ofDebt_123 : decode prog_9_method_4_code 123 = .ok (.if_icmp .eq 23, 3) := by decide +kernel
theorem d_Ru_ofDebt_126 : decode prog_9_method_4_code 126 = .ok (.iload 8, 2) := by decide +kernel
theorem d_Ru_ofDebt_128 : decode prog_9_method_4_code 128 = .ok (.iconst 0, 1) := by decide +kernel
theorem d_Ru_ofDebt_129 : decode prog_9_method_4_code 129 = .ok (.iload_n 3, 1) := by decide +kernel
theorem d_Ru_ofDebt_130 : decode prog_9_method_4_code 130 = .ok (.iconst 1, 1) := by decide +kernel
theorem d_Ru_ofDebt_131 : decode prog_9_method_4_code 131 = .ok (.if_icmp .ne 8, 3) := by decide +kernel
theorem d_Ru_ofDebt_134 : decode prog_9_method_4_code 134 = .ok (.bipush 99, 2) := by decide +kernel
theorem d_Ru_ofDebt_136 : decode prog_9_method_4_code 136 = .ok (.goto 6, 3) := by decide +kernel
theorem d_Ru_ofDebt_139 : decode prog_9_method_4_code 139 = .ok (.sipush 9999, 3) := by decide +kernel
theorem d_Ru_ofDebt_142 : decode prog_9_method_4_code 142 = .ok (.invokestatic 55, 3) := by decide +kernel
theorem d_Ru_ofDebt_145 : decode prog_9_method_4_code 145 = .ok (.ireturn, 1) := by decide +kernel
theorem d_Ru_ofDebt_146 : decode prog_9_method_4_code 146 = .ok (.iload_n 3, 1) := by decide +kernel
theorem d_Ru_ofDebt_147 : decode prog_9_method_4_code 147 = .ok (.iconst 1, 1) := by decide +kernel
theorem d_Ru_ofDebt_148 : decode prog_9_method_4_code 148 = .ok (.if_icmp .ne 7, 3) := by decide +kernel
theorem d_Ru_ofDebt_151 : decode prog_9_method_4_code 151 = .ok (.iconst 0, 1) := by decide +kernel
theorem d_Ru_ofDebt_152 : decode prog_9_method_4_code 152 = .ok (.goto 5, 3) := by decide +kernel
theorem d_Ru_ofDebt_155 : decode prog_9_method_4_code 155 = .ok (.iload 5, 2) := by decide +kernel
theorem d_Ru_ofDebt_157 : decode prog_9_method_4_code 157 = .ok (.ireturn, 1) := by decide +kernel
def w_Ru_ofDebt {d : Nat} (hd : 4 ≤ d) := (show SS ("DebtDoors$Rules", prog_9_method_4_code, 9) (some .int) d 0 0 0 0 _ from (sS (p1 := 6) (sR (rFr fl_Ru_18 nk_9_0 (rAn 1 d_Ru_ofDebt_0 rfl) d_Ru_ofDebt_1) d_Ru_ofDebt_4 (by decide)) (sS (p1 := 15) (sI (xE (rIa (rFr fl_Ru_64 nk_1_3 (rAl d_Ru_ofDebt_6) d_Ru_ofDebt_8) (rIn 2 d_Ru_ofDebt_11 rfl) d_Ru_ofDebt_12)) d_Ru_ofDebt_13 (by decide)) (sS (p1 := 146) (sIf (pn := 146) (tt := 23) (xC (rNot (rJ2 (tgt := 146) j_eq (rF 11 fl_Ru_38 nk_9_11 (rAn 1 d_Ru_ofDebt_15 rfl) d_Ru_ofDebt_16 rfl) (rI d_Ru_ofDebt_19 rfl) d_Ru_ofDebt_20 (by decide)))) (sS (p1 := 32) (sI (xE (rIa (rFr fl_Ru_67 nk_1_1 (rAl d_Ru_ofDebt_23) d_Ru_ofDebt_25) (rIn 2 d_Ru_ofDebt_28 rfl) d_Ru_ofDebt_29)) d_Ru_ofDebt_30 (by decide)) (sS (p1 := 41) (sI (xE (rIa (rFr fl_Ru_70 nk_1_2 (rAl d_Ru_ofDebt_32) d_Ru_ofDebt_34) (rIn 2 d_Ru_ofDebt_37 rfl) d_Ru_ofDebt_38)) d_Ru_ofDebt_39 (by decide)) (sS (p1 := 68) (sV (xVv lv_Ru_46 (xA (rAi (rAi (rAi (rAi (rAr (rAr rA0 (rAn 0 d_Ru_ofDebt_41 rfl)) (rAn 1 d_Ru_ofDebt_42 rfl)) (rIl d_Ru_ofDebt_43)) (rIl d_Ru_ofDebt_45)) (rV p_Le_owed (Nat.le_trans (Nat.le_of_ble_eq_true rfl) hd) lv_Ru_24 (rAi (rAi (rAr rA0 (rAl d_Ru_ofDebt_47)) (rIl d_Ru_ofDebt_49)) (rIl d_Ru_ofDebt_51)) (by decide) d_Ru_ofDebt_53)) (rV p_Le_owed (Nat.le_trans (Nat.le_of_ble_eq_true rfl) hd) lv_Ru_24 (rAi (rAi (rAr rA0 (rAl d_Ru_ofDebt_56)) (rIl d_Ru_ofDebt_58)) (rIl d_Ru_ofDebt_60)) (by decide) d_Ru_ofDebt_62))) (by decide) d_Ru_ofDebt_65)) (sS (p1 := 80) (sAs (rFr fl_Ru_73 nk_3_0 (rFr fl_Ru_12 nk_7_0 (rAn 0 d_Ru_ofDebt_68 rfl) d_Ru_ofDebt_69) d_Ru_ofDebt_72) (rB d_Ru_ofDebt_75 rfl) (xE (rIl d_Ru_ofDebt_77)) d_Ru_ofDebt_79) (sS (p1 := 103) (sAs (rFr fl_Ru_73 nk_3_0 (rFr fl_Ru_12 nk_7_0 (rAn 0 d_Ru_ofDebt_80 rfl) d_Ru_ofDebt_81) d_Ru_ofDebt_84) (rB d_Ru_ofDebt_87 rfl) (xE (r2 o_sub (rF 6 fl_Ru_76 nk_1_6 (rAl d_Ru_ofDebt_89) d_Ru_ofDebt_91 rfl) (rIa (rFr fl_Ru_79 nk_1_4 (rAl d_Ru_ofDebt_94) d_Ru_ofDebt_96) (rIn 2 d_Ru_ofDebt_99 rfl) d_Ru_ofDebt_100) d_Ru_ofDebt_101)) d_Ru_ofDebt_102) (sS (p1 := 119) (sI (xV lv_Ru_50 (xA (rAi (rAr (rAr rA0 (rAn 0 d_Ru_ofDebt_103 rfl)) (rAa (rFr fl_Ru_42 nk_9_5 (rAn 1 d_Ru_ofDebt_104 rfl) d_Ru_ofDebt_105) (rF 11 fl_Ru_38 nk_9_11 (rAn 1 d_Ru_ofDebt_108 rfl) d_Ru_ofDebt_109 rfl) d_Ru_ofDebt_112)) (rIn 3 d_Ru_ofDebt_113 rfl))) (by decide) d_Ru_ofDebt_114) d_Ru_ofDebt_117 (by decide)) (sIf (pn := 146) (tt := 126) (xC (rNot (rJ2 (tgt := 146) j_eq (rIl d_Ru_ofDebt_119) (rLd kc_Ru_54 d_Ru_ofDebt_121 rfl) d_Ru_ofDebt_123 (by decide)))) (sRi (xE (rS p_D_nearest (Nat.le_trans (Nat.le_of_ble_eq_true rfl) hd) ls_Ru_55 (rAi (rAi (rAi rA0 (rIl d_Ru_ofDebt_126)) (rI d_Ru_ofDebt_128 rfl)) (rT2 (rNot (rJ2 (tgt := 139) j_ne (rIn 3 d_Ru_ofDebt_129 rfl) (rI d_Ru_ofDebt_130 rfl) d_Ru_ofDebt_131 (by decide))) (rGoE (p2 := 142) (rB d_Ru_ofDebt_134 rfl) d_Ru_ofDebt_136 (by decide)) (rSi d_Ru_ofDebt_139 rfl))) (by decide) d_Ru_ofDebt_142)) d_Ru_ofDebt_145 rfl))))))))) (sRi (xE (rT2 (rNot (rJ2 (tgt := 155) j_ne (rIn 3 d_Ru_ofDebt_146 rfl) (rI d_Ru_ofDebt_147 rfl) d_Ru_ofDebt_148 (by decide))) (rGoE (p2 := 157) (rI d_Ru_ofDebt_151 rfl) d_Ru_ofDebt_152 (by decide)) (rIl d_Ru_ofDebt_155))) d_Ru_ofDebt_157 rfl)))))
def y_M_setsDebt : zMt := (⟨"DebtDoorsModel", "setsDebt", "(I)V"⟩, prog_14_method_77_code, 3, none)
theorem d_M_setsDebt_0 : decode prog_14_method_77_code 0 = .ok (.bipush 7, 2) := by decide +kernel
theorem d_M_setsDebt_2 : decode prog_14_method_77_code 2 = .ok (.iconst 4, 1) := by decide +kernel
theorem d_M_setsDebt_3 : decode prog_14_method_77_code 3 = .ok (.iload_n 1, 1) := by decide +kernel
theorem d_M_setsDebt_4 : decode prog_14_method_77_code 4 = .ok (.imul, 1) := by decide +kernel
theorem d_M_setsDebt_5 : decode prog_14_method_77_code 5 = .ok (.iadd, 1) := by decide +kernel
theorem d_M_setsDebt_6 : decode prog_14_method_77_code 6 = .ok (.istore_n 2, 1) := by decide +kernel
theorem d_M_setsDebt_7 : decode prog_14_method_77_code 7 = .ok (.aload_n 0, 1) := by decide +kernel
theorem d_M_setsDebt_8 : decode prog_14_method_77_code 8 = .ok (.aload_n 0, 1) := by decide +kernel
theorem d_M_setsDebt_9 : decode prog_14_method_77_code 9 = .ok (.getfield 24, 3) := by decide +kernel
theorem d_M_setsDebt_12 : decode prog_14_method_77_code 12 = .ok (.iload_n 2, 1) := by decide +kernel
theorem d_M_setsDebt_13 : decode prog_14_method_77_code 13 = .ok (.iaload, 1) := by decide +kernel
theorem d_M_setsDebt_14 : decode prog_14_method_77_code 14 = .ok (.aload_n 0, 1) := by decide +kernel
theorem d_M_setsDebt_15 : decode prog_14_method_77_code 15 = .ok (.getfield 24, 3) := by decide +kernel
theorem d_M_setsDebt_18 : decode prog_14_method_77_code 18 = .ok (.iload_n 2, 1) := by decide +kernel
theorem d_M_setsDebt_19 : decode prog_14_method_77_code 19 = .ok (.iconst 1, 1) := by decide +kernel
theorem d_M_setsDebt_20 : decode prog_14_method_77_code 20 = .ok (.iadd, 1) := by decide +kernel
theorem d_M_setsDebt_21 : decode prog_14_method_77_code 21 = .ok (.iaload, 1) := by decide +kernel
theorem d_M_setsDebt_22 : decode prog_14_method_77_code 22 = .ok (.aload_n 0, 1) := by decide +kernel
theorem d_M_setsDebt_23 : decode prog_14_method_77_code 23 = .ok (.aload_n 0, 1) := by decide +kernel
theorem d_M_setsDebt_24 : decode prog_14_method_77_code 24 = .ok (.getfield 24, 3) := by decide +kernel
theorem d_M_setsDebt_27 : decode prog_14_method_77_code 27 = .ok (.iload_n 2, 1) := by decide +kernel
theorem d_M_setsDebt_28 : decode prog_14_method_77_code 28 = .ok (.iaload, 1) := by decide +kernel
theorem d_M_setsDebt_29 : decode prog_14_method_77_code 29 = .ok (.aload_n 0, 1) := by decide +kernel
theorem d_M_setsDebt_30 : decode prog_14_method_77_code 30 = .ok (.getfield 24, 3) := by decide +kernel
theorem d_M_setsDebt_33 : decode prog_14_method_77_code 33 = .ok (.iload_n 2, 1) := by decide +kernel
theorem d_M_setsDebt_34 : decode prog_14_method_77_code 34 = .ok (.iconst 1, 1) := by decide +kernel
theorem d_M_setsDebt_35 : decode prog_14_method_77_code 35 = .ok (.iadd, 1) := by decide +kernel
theorem d_M_setsDebt_36 : decode prog_14_method_77_code 36 = .ok (.iaload, 1) := by decide +kernel
theorem d_M_setsDebt_37 : decode prog_14_method_77_code 37 = .ok (.invokevirtual 178, 3) := by decide +kernel
theorem d_M_setsDebt_40 : decode prog_14_method_77_code 40 = .ok (.aload_n 0, 1) := by decide +kernel
theorem d_M_setsDebt_41 : decode prog_14_method_77_code 41 = .ok (.aload_n 0, 1) := by decide +kernel
theorem d_M_setsDebt_42 : decode prog_14_method_77_code 42 = .ok (.getfield 24, 3) := by decide +kernel
theorem d_M_setsDebt_45 : decode prog_14_method_77_code 45 = .ok (.iload_n 2, 1) := by decide +kernel
theorem d_M_setsDebt_46 : decode prog_14_method_77_code 46 = .ok (.iconst 1, 1) := by decide +kernel
theorem d_M_setsDebt_47 : decode prog_14_method_77_code 47 = .ok (.iadd, 1) := by decide +kernel
theorem d_M_setsDebt_48 : decode prog_14_method_77_code 48 = .ok (.iaload, 1) := by decide +kernel
theorem d_M_setsDebt_49 : decode prog_14_method_77_code 49 = .ok (.aload_n 0, 1) := by decide +kernel
theorem d_M_setsDebt_50 : decode prog_14_method_77_code 50 = .ok (.getfield 24, 3) := by decide +kernel
theorem d_M_setsDebt_53 : decode prog_14_method_77_code 53 = .ok (.iload_n 2, 1) := by decide +kernel
theorem d_M_setsDebt_54 : decode prog_14_method_77_code 54 = .ok (.iaload, 1) := by decide +kernel
theorem d_M_setsDebt_55 : decode prog_14_method_77_code 55 = .ok (.invokevirtual 178, 3) := by decide +kernel
theorem d_M_setsDebt_58 : decode prog_14_method_77_code 58 = .ok (.aload_n 0, 1) := by decide +kernel
theorem d_M_setsDebt_59 : decode prog_14_method_77_code 59 = .ok (.getfield 24, 3) := by decide +kernel
theorem d_M_setsDebt_62 : decode prog_14_method_77_code 62 = .ok (.iload_n 2, 1) := by decide +kernel
theorem d_M_setsDebt_63 : decode prog_14_method_77_code 63 = .ok (.iconst 2, 1) := by decide +kernel
theorem d_M_setsDebt_64 : decode prog_14_method_77_code 64 = .ok (.iadd, 1) := by decide +kernel
theorem d_M_setsDebt_65 : decode prog_14_method_77_code 65 = .ok (.iaload, 1) := by decide +kernel
theorem d_M_setsDebt_66 : decode prog_14_method_77_code 66 = .ok (.aload_n 0, 1) := by decide +kernel
theorem d_M_setsDebt_67 : decode prog_14_method_77_code 67 = .ok (.getfield 24, 3) := by decide +kernel
theorem d_M_setsDebt_70 : decode prog_14_method_77_code 70 = .ok (.bipush 72, 2) := by decide +kernel
theorem d_M_setsDebt_72 : decode prog_14_method_77_code 72 = .ok (.iaload, 1) := by decide +kernel
theorem d_M_setsDebt_73 : decode prog_14_method_77_code 73 = .ok (.aload_n 0, 1) := by decide +kernel
theorem d_M_setsDebt_74 : decode prog_14_method_77_code 74 = .ok (.getfield 24, 3) := by decide +kernel
theorem d_M_setsDebt_77 : decode prog_14_method_77_code 77 = .ok (.iload_n 2, 1) := by decide +kernel
theorem d_M_setsDebt_78 : decode prog_14_method_77_code 78 = .ok (.iconst 3, 1) := by decide +kernel
theorem d_M_setsDebt_79 : decode prog_14_method_77_code 79 = .ok (.iadd, 1) := by decide +kernel
theorem d_M_setsDebt_80 : decode prog_14_method_77_code 80 = .ok (.iaload, 1) := by decide +kernel
theorem d_M_setsDebt_81 : decode prog_14_method_77_code 81 = .ok (.isub, 1) := by decide +kernel
theorem d_M_setsDebt_82 : decode prog_14_method_77_code 82 = .ok (.invokevirtual 328, 3) := by decide +kernel
theorem d_M_setsDebt_85 : decode prog_14_method_77_code 85 = .ok (.return_, 1) := by decide +kernel
def w_M_setsDebt {d : Nat} (hd : 3 ≤ d) := (show SS ("DebtDoorsModel", prog_14_method_77_code, 3) (none) d 0 0 0 0 _ from (sS (p1 := 7) (sIn 2 (xE (r2 o_add (rB d_M_setsDebt_0 rfl) (r2 o_mul (rI d_M_setsDebt_2 rfl) (rIn 1 d_M_setsDebt_3 rfl) d_M_setsDebt_4) d_M_setsDebt_5)) d_M_setsDebt_6 rfl (by decide)) (sS (p1 := 85) (sV (xVv lv_M_328 (xA (rAi (rAi (rAi (rAi (rAi (rAi (rAr rA0 (rAn 0 d_M_setsDebt_7 rfl)) (rIa (rFr fl_M_24 nk_12_2 (rAn 0 d_M_setsDebt_8 rfl) d_M_setsDebt_9) (rIn 2 d_M_setsDebt_12 rfl) d_M_setsDebt_13)) (rIa (rFr fl_M_24 nk_12_2 (rAn 0 d_M_setsDebt_14 rfl) d_M_setsDebt_15) (r2 o_add (rIn 2 d_M_setsDebt_18 rfl) (rI d_M_setsDebt_19 rfl) d_M_setsDebt_20) d_M_setsDebt_21)) (rV p_M_owed (Nat.le_trans (Nat.le_of_ble_eq_true rfl) hd) lv_M_178 (rAi (rAi (rAr rA0 (rAn 0 d_M_setsDebt_22 rfl)) (rIa (rFr fl_M_24 nk_12_2 (rAn 0 d_M_setsDebt_23 rfl) d_M_setsDebt_24) (rIn 2 d_M_setsDebt_27 rfl) d_M_setsDebt_28)) (rIa (rFr fl_M_24 nk_12_2 (rAn 0 d_M_setsDebt_29 rfl) d_M_setsDebt_30) (r2 o_add (rIn 2 d_M_setsDebt_33 rfl) (rI d_M_setsDebt_34 rfl) d_M_setsDebt_35) d_M_setsDebt_36)) (by decide) d_M_setsDebt_37)) (rV p_M_owed (Nat.le_trans (Nat.le_of_ble_eq_true rfl) hd) lv_M_178 (rAi (rAi (rAr rA0 (rAn 0 d_M_setsDebt_40 rfl)) (rIa (rFr fl_M_24 nk_12_2 (rAn 0 d_M_setsDebt_41 rfl) d_M_setsDebt_42) (r2 o_add (rIn 2 d_M_setsDebt_45 rfl) (rI d_M_setsDebt_46 rfl) d_M_setsDebt_47) d_M_setsDebt_48)) (rIa (rFr fl_M_24 nk_12_2 (rAn 0 d_M_setsDebt_49 rfl) d_M_setsDebt_50) (rIn 2 d_M_setsDebt_53 rfl) d_M_setsDebt_54)) (by decide) d_M_setsDebt_55)) (rIa (rFr fl_M_24 nk_12_2 (rAn 0 d_M_setsDebt_58 rfl) d_M_setsDebt_59) (r2 o_add (rIn 2 d_M_setsDebt_62 rfl) (rI d_M_setsDebt_63 rfl) d_M_setsDebt_64) d_M_setsDebt_65)) (r2 o_sub (rIa (rFr fl_M_24 nk_12_2 (rAn 0 d_M_setsDebt_66 rfl) d_M_setsDebt_67) (rB d_M_setsDebt_70 rfl) d_M_setsDebt_72) (rIa (rFr fl_M_24 nk_12_2 (rAn 0 d_M_setsDebt_73 rfl) d_M_setsDebt_74) (r2 o_add (rIn 2 d_M_setsDebt_77 rfl) (rI d_M_setsDebt_78 rfl) d_M_setsDebt_79) d_M_setsDebt_80) d_M_setsDebt_81))) (by decide) d_M_setsDebt_82)) (sRv d_M_setsDebt_85 rfl))))
theorem m_M_setsDebt : Cond.instanceMethod y_M_setsDebt.1 ∈ zTb ∧ Cond.selects y_M_setsDebt.1.cls y_M_setsDebt.1 y_M_setsDebt.1 ∈ zTb ∧ Cond.initialized y_M_setsDebt.1.cls ∈ zTb ∧ Cond.code y_M_setsDebt.1 y_M_setsDebt.2.1 y_M_setsDebt.2.2.1 y_M_setsDebt.2.2.2 ∈ zTb ∧ (y_M_setsDebt.1.cls ≠ "java/lang/invoke/MethodHandle" ∧ y_M_setsDebt.1.cls ≠ "java/lang/invoke/VarHandle" ∧ (parseMethodDescriptor y_M_setsDebt.1.desc).map (fun d => d.parameters.length) = some 1) ∧ y_M_setsDebt.2.2.1 ≤ 20 :=
  ⟨(zTb_in 1596 (by decide +kernel) (by decide +kernel)), (List.mem_filter.mpr ⟨List.mem_append_left _ (by decide +kernel), by decide +kernel⟩), (zTb_in 151 (by decide +kernel) (by decide +kernel)), (zTb_in 1597 (by decide +kernel) (by decide +kernel)), by decide +kernel, by decide +kernel⟩
theorem lv_M_342 : zLv "DebtDoorsModel" 342 y_M_setsDebt 1 12 := ⟨⟨(zTb_in 1594 (by decide +kernel) (by decide +kernel)), m_M_setsDebt.1, m_M_setsDebt.2.1, m_M_setsDebt.2.2⟩, _, rfl, rfl⟩
def y_M_growsBy : zMt := (⟨"DebtDoorsModel", "growsBy", "(I)I"⟩, prog_14_method_78_code, 2, some .int)
theorem d_M_growsBy_0 : decode prog_14_method_78_code 0 = .ok (.aload_n 0, 1) := by decide +kernel
theorem d_M_growsBy_1 : decode prog_14_method_78_code 1 = .ok (.iload_n 1, 1) := by decide +kernel
theorem d_M_growsBy_2 : decode prog_14_method_78_code 2 = .ok (.invokevirtual 342, 3) := by decide +kernel
theorem d_M_growsBy_5 : decode prog_14_method_78_code 5 = .ok (.aload_n 0, 1) := by decide +kernel
theorem d_M_growsBy_6 : decode prog_14_method_78_code 6 = .ok (.iconst 2, 1) := by decide +kernel
theorem d_M_growsBy_7 : decode prog_14_method_78_code 7 = .ok (.bipush 99, 2) := by decide +kernel
theorem d_M_growsBy_9 : decode prog_14_method_78_code 9 = .ok (.iconst 0, 1) := by decide +kernel
theorem d_M_growsBy_10 : decode prog_14_method_78_code 10 = .ok (.invokevirtual 332, 3) := by decide +kernel
theorem d_M_growsBy_13 : decode prog_14_method_78_code 13 = .ok (.ireturn, 1) := by decide +kernel
def w_M_growsBy {d : Nat} (hd : 1 ≤ d) := (show SS ("DebtDoorsModel", prog_14_method_78_code, 2) (some .int) d 0 0 0 0 _ from (sS (p1 := 5) (sV (xVv lv_M_342 (xA (rAi (rAr rA0 (rAn 0 d_M_growsBy_0 rfl)) (rIn 1 d_M_growsBy_1 rfl))) (by decide) d_M_growsBy_2)) (sRi (xV lv_M_332 (xA (rAi (rAi (rAi (rAr rA0 (rAn 0 d_M_growsBy_5 rfl)) (rI d_M_growsBy_6 rfl)) (rB d_M_growsBy_7 rfl)) (rI d_M_growsBy_9 rfl))) (by decide) d_M_growsBy_10) d_M_growsBy_13 rfl)))
def y_M_soldFor : zMt := (⟨"DebtDoorsModel", "soldFor", "(I)I"⟩, prog_14_method_79_code, 2, some .int)
theorem d_M_soldFor_0 : decode prog_14_method_79_code 0 = .ok (.aload_n 0, 1) := by decide +kernel
theorem d_M_soldFor_1 : decode prog_14_method_79_code 1 = .ok (.iload_n 1, 1) := by decide +kernel
theorem d_M_soldFor_2 : decode prog_14_method_79_code 2 = .ok (.invokevirtual 342, 3) := by decide +kernel
theorem d_M_soldFor_5 : decode prog_14_method_79_code 5 = .ok (.aload_n 0, 1) := by decide +kernel
theorem d_M_soldFor_6 : decode prog_14_method_79_code 6 = .ok (.iconst 3, 1) := by decide +kernel
theorem d_M_soldFor_7 : decode prog_14_method_79_code 7 = .ok (.sipush 9999, 3) := by decide +kernel
theorem d_M_soldFor_10 : decode prog_14_method_79_code 10 = .ok (.aload_n 0, 1) := by decide +kernel
theorem d_M_soldFor_11 : decode prog_14_method_79_code 11 = .ok (.getfield 24, 3) := by decide +kernel
theorem d_M_soldFor_14 : decode prog_14_method_79_code 14 = .ok (.bipush 7, 2) := by decide +kernel
theorem d_M_soldFor_16 : decode prog_14_method_79_code 16 = .ok (.iconst 4, 1) := by decide +kernel
theorem d_M_soldFor_17 : decode prog_14_method_79_code 17 = .ok (.iload_n 1, 1) := by decide +kernel
theorem d_M_soldFor_18 : decode prog_14_method_79_code 18 = .ok (.imul, 1) := by decide +kernel
theorem d_M_soldFor_19 : decode prog_14_method_79_code 19 = .ok (.iadd, 1) := by decide +kernel
theorem d_M_soldFor_20 : decode prog_14_method_79_code 20 = .ok (.iconst 2, 1) := by decide +kernel
theorem d_M_soldFor_21 : decode prog_14_method_79_code 21 = .ok (.iadd, 1) := by decide +kernel
theorem d_M_soldFor_22 : decode prog_14_method_79_code 22 = .ok (.iaload, 1) := by decide +kernel
theorem d_M_soldFor_23 : decode prog_14_method_79_code 23 = .ok (.invokevirtual 332, 3) := by decide +kernel
theorem d_M_soldFor_26 : decode prog_14_method_79_code 26 = .ok (.ireturn, 1) := by decide +kernel
def w_M_soldFor {d : Nat} (hd : 1 ≤ d) := (show SS ("DebtDoorsModel", prog_14_method_79_code, 2) (some .int) d 0 0 0 0 _ from (sS (p1 := 5) (sV (xVv lv_M_342 (xA (rAi (rAr rA0 (rAn 0 d_M_soldFor_0 rfl)) (rIn 1 d_M_soldFor_1 rfl))) (by decide) d_M_soldFor_2)) (sRi (xV lv_M_332 (xA (rAi (rAi (rAi (rAr rA0 (rAn 0 d_M_soldFor_5 rfl)) (rI d_M_soldFor_6 rfl)) (rSi d_M_soldFor_7 rfl)) (rIa (rFr fl_M_24 nk_12_2 (rAn 0 d_M_soldFor_10 rfl) d_M_soldFor_11) (r2 o_add (r2 o_add (rB d_M_soldFor_14 rfl) (r2 o_mul (rI d_M_soldFor_16 rfl) (rIn 1 d_M_soldFor_17 rfl) d_M_soldFor_18) d_M_soldFor_19) (rI d_M_soldFor_20 rfl) d_M_soldFor_21) d_M_soldFor_22))) (by decide) d_M_soldFor_23) d_M_soldFor_26 rfl)))
theorem q_Ru_ofDebt {d : Nat} (hd : 6 ≤ d) {μ : zMem} {k kind : Int} {F : Option (List Cls)} {W : Int → Int} (hdb : okT (μ 2 5) (fD μ)) (hk : 0 ≤ k ∧ k < μ 2 5) (hkd : kind = 1 ∨ kind = 2) (hF : FoC μ F) (hW : W = fillW (μ 4 k) (μ 5 k) (owL (μ 4 k) (μ 5 k) (dbD μ)) (owL (μ 5 k) (μ 4 k) (dbD μ)) (μ 8 (μ 4 k)) (μ 9 (μ 4 k)) (μ 6 k) (μ 2 6 - μ 7 k) (μ 2 6) (μ 1 7) (μ 326)) (hWb : WB W) (hday : 0 ≤ μ 2 6 ∧ μ 2 6 ≤ 999) (hsn : 0 ≤ μ 7 k ∧ μ 7 k ≤ 999) : zSp d 0 0 y_Ru_ofDebt zT0 [vr 324, vr 1, vi k, vi kind] μ zT0 (fun r μ' => r = some (vi (odS W F kind (μ 6 k))) ∧ (∃ w, μ' 326 = w ∧ (F = none → w = μ 326) ∧ (F ≠ none → w = W)) ∧ zfc [325, 326, 327] μ μ') := by
  refine zSp.ss [vr 324, vr 1, vi k, vi kind, vx 0, vx 0, vx 0, vx 0, vx 0] rfl (w_Ru_ofDebt (Nat.le_trans (by decide) hd)) rfl rfl ?_
  (try simp only [zit_e, Bool.and_eq_true, Bool.or_eq_true, Bool.not_eq_true', Bool.and_eq_false_iff, Bool.or_eq_false_iff, Bool.not_eq_false', zbe, zdt, zdf, zb2_p, zbp_0, zbp_1, zbp_inj, zbp_01, Bool.true_eq_false, Bool.false_eq_true, true_and, and_true, Decidable.not_not, Classical.not_not, implies_true, List.nil_append, List.cons_append, List.append_assoc, Option.some.injEq, Sum.inl.injEq, zSw_c, zSw_n]); (try simp only [zit_e, Bool.and_eq_true, Bool.or_eq_true, Bool.not_eq_true', Bool.and_eq_false_iff, Bool.or_eq_false_iff, Bool.not_eq_false', zbe, zdt, zdf, zb2_p, zbp_0, zbp_1, zbp_inj, zbp_01, Bool.true_eq_false, Bool.false_eq_true, true_and, and_true, Decidable.not_not, Classical.not_not, implies_true, List.nil_append, List.cons_append, List.append_assoc, Option.some.injEq, Sum.inl.injEq, zSw_c, zSw_n, zc_324, zc_325, zc_1, zc_2, f_D_nearest, g_D_nearest, f_Le_owed, g_Le_owed]); (try simp only [zi_cs, zi_c0, zii_cs, zii_c0, zl_cs, zl_c0, zll_cs, zll_c0, zr_cs, zr_c0, zrr_cs, zrr_c0, zxs_cs, zxs_c0, zxx_cs, zxx_c0, zfree_c0, zfree_c1, zfree_cs, zfree_cz, zlong_i, zlong_r, zlong_x, zset_0, zset_s, true_and, and_true, Option.some.injEq, Sum.inl.injEq, Sum.inr.injEq, zb2_p, zbp_0, zbp_1, zbp_inj, zbp_01, Nat.zero_add, Nat.reduceAdd, implies_true, List.nil_append, List.cons_append, List.append_assoc, Int.not_lt, Int.not_le, Decidable.not_not, Int.zero_add, Int.reduceLE, Int.reduceLT, Int.reduceEq, Int.reduceNe, Int.reduceAdd, Int.reduceSub, Int.reduceMul, Int.reduceNeg, Int.reduceToNat, Nat.reduceMul, Nat.reduceLT, Nat.reduceEqDiff, and_self, ite_true, ite_false, zx1, zx2, zRecv, List.length_cons, List.length_nil, ne_eq, not_true_eq_false, not_false_eq_true, true_or, or_true, or_false, false_or, and_false, false_and, zf01, zf10, reduceCtorEq, zSw_c, zSw_n, zm_r, zit_T, zit_F, false_implies, true_implies, zc_324, zc_325, zc_1, zc_2, f_D_nearest, g_D_nearest, f_Le_owed, g_Le_owed])
  have hn := hdb.1
  have hok : okd (fD μ k) := hdb.2 k hk.1 hk.2
  have hok1 : (0 ≤ μ 4 k ∧ μ 4 k < 7) ∧ (0 ≤ μ 5 k ∧ μ 5 k < 7) ∧ μ 4 k ≠ μ 5 k ∧ (1 ≤ μ 6 k ∧ μ 6 k ≤ 9999) ∧ 0 ≤ μ 7 k ∧ μ 7 k ≤ 999 := hok
  have hdv : odD kind (μ 6 k) = zit (kind = 1) 0 (μ 6 k) := by
    unfold odD
    rw [zit_e]
  refine ⟨by omega, ?_⟩
  rcases hF with ⟨h11, rfl⟩ | ⟨f, cls, h11, hf, rfl, hL, hM⟩
  · rw [if_neg (by omega)]
    exact ⟨hdv.symm, ⟨_, rfl, fun _ => rfl, fun q => absurd rfl q⟩, zfc.rf⟩
  rw [if_pos (by omega)]
  have hkl := zkl28 hf
  refine ⟨by omega, by omega, hdb, zCw.use (q_Ru_fillWords (d := 1) (Nat.le_refl _) (by omega)) (by omega) (fun q μ1 e => ?_)⟩
  obtain ⟨rfl, e1, e2⟩ := e
  have p2 : μ1 2 = μ 2 := e2 2 (by decide)
  have p7 : μ1 7 = μ 7 := e2 7 (by decide)
  have p11 : μ1 1 = μ 1 := e2 1 (by decide)
  rw [p2, p7, p11, h11, zpa28 hf]
  have ok0 := lst_ok (kind := kind) hM hWb
  have p1 : (zm (zm μ1 326 6 (μ 6 k)) 326 7 (μ 2 6 - μ 7 k)) (29 + f.toNat) = μ (29 + f.toNat) := by
    rw [zm_off _ (by omega), zm_off _ (by omega)]
    exact e2 _ (by simp only [List.mem_cons, List.not_mem_nil, or_false]; omega)
  have w1 : (zm (zm μ1 326 6 (μ 6 k)) 326 7 (μ 2 6 - μ 7 k)) 326 = W := by
    funext i
    simp only [zm_r, zit_T, e1]
    rw [hW]
    exact fillW_67
  have f1 : zfc [325, 326, 327] μ (zm (zm μ1 326 6 (μ 6 k)) 326 7 (μ 2 6 - μ 7 k)) := ((e2.mo (by simp)).zm (by decide)).zm (by decide)
  refine ⟨rfl, ⟨by omega, zI_s (by omega) (by omega)⟩, by omega, zCw.use (q_Ru_lastTold (d := 5) (Nat.le_refl _) hkl (by rw [p1]; exact hL) w1 hWb) (by omega) (fun q μ2 e => ?_)⟩
  obtain ⟨rfl, e3⟩ := e
  refine ⟨_, rfl, ?_⟩
  have f2 : zfc [325, 326, 327] μ μ2 := (f1.tr e3).mo (by simp)
  have w2 : μ2 326 = W := (e3 326 (by decide)).trans w1
  have hod : odS W (some cls) kind (μ 6 k) = tlV (zit (kind = 1) 99 9999) (odD kind (μ 6 k)) (lstT W kind cls) := by
    unfold odS
    simp only
    rw [zit_e]
  rw [hod]
  refine zif (fun c => ?_) (fun c => ?_)
  · rw [lsV_u ok0] at c
    refine ⟨?_, ⟨W, w2, fun q => (by cases q), fun _ => rfl⟩, f2⟩
    rcases e5 : lstT W kind cls with _ | s
    · exact absurd e5 c
    show max 0 (min (zit (kind = 1) 99 9999) (if kind = 3 then 0 else s)) = clp (zit (kind = 1) 99 9999) s
    rw [if_neg (by omega)]
    unfold clp zit
    repeat' split
    all_goals omega
  · have c0 : lstT W kind cls = none := (lsV_u ok0).mp (Classical.not_not.mp c)
    refine ⟨?_, ⟨W, w2, fun q => (by cases q), fun _ => rfl⟩, f2⟩
    rw [c0, ← hdv]
    rfl
theorem q_M_setsDebt {d : Nat} (hd : 4 ≤ d) {μ : zMem} {k : Int} (hdb : okT (μ 357 71) (fM μ)) (hk : 0 ≤ k ∧ k < μ 357 71) (hday : 0 ≤ μ 357 72 ∧ μ 357 72 ≤ 999) : zSp d 0 0 y_M_setsDebt zT0 [vr 355, vi k] μ zT0 (fun r μ' => r = none ∧ (∀ w i, 0 ≤ i → i < 10 → μ' 367 i = fillW (μ 357 (7 + 4 * k)) (μ 357 (7 + 4 * k + 1)) (owL (μ 357 (7 + 4 * k)) (μ 357 (7 + 4 * k + 1)) (dbM μ)) (owL (μ 357 (7 + 4 * k + 1)) (μ 357 (7 + 4 * k)) (dbM μ)) (μ 357 (73 + 2 * μ 357 (7 + 4 * k))) (μ 357 (74 + 2 * μ 357 (7 + 4 * k))) (μ 357 (7 + 4 * k + 2)) (μ 357 72 - μ 357 (7 + 4 * k + 3)) (μ 357 72) (μ 357 151) w i) ∧ zfc [367] μ μ') := by
  refine zSp.ss [vr 355, vi k, vx 0] rfl (w_M_setsDebt (Nat.le_trans (by decide) hd)) rfl rfl ?_
  (try simp only [zit_e, Bool.and_eq_true, Bool.or_eq_true, Bool.not_eq_true', Bool.and_eq_false_iff, Bool.or_eq_false_iff, Bool.not_eq_false', zbe, zdt, zdf, zb2_p, zbp_0, zbp_1, zbp_inj, zbp_01, Bool.true_eq_false, Bool.false_eq_true, true_and, and_true, Decidable.not_not, Classical.not_not, implies_true, List.nil_append, List.cons_append, List.append_assoc, Option.some.injEq, Sum.inl.injEq, zSw_c, zSw_n]); (try simp only [zit_e, Bool.and_eq_true, Bool.or_eq_true, Bool.not_eq_true', Bool.and_eq_false_iff, Bool.or_eq_false_iff, Bool.not_eq_false', zbe, zdt, zdf, zb2_p, zbp_0, zbp_1, zbp_inj, zbp_01, Bool.true_eq_false, Bool.false_eq_true, true_and, and_true, Decidable.not_not, Classical.not_not, implies_true, List.nil_append, List.cons_append, List.append_assoc, Option.some.injEq, Sum.inl.injEq, zSw_c, zSw_n, zc_355, f_M_owed, g_M_owed]); (try simp only [zi_cs, zi_c0, zii_cs, zii_c0, zl_cs, zl_c0, zll_cs, zll_c0, zr_cs, zr_c0, zrr_cs, zrr_c0, zxs_cs, zxs_c0, zxx_cs, zxx_c0, zfree_c0, zfree_c1, zfree_cs, zfree_cz, zlong_i, zlong_r, zlong_x, zset_0, zset_s, true_and, and_true, Option.some.injEq, Sum.inl.injEq, Sum.inr.injEq, zb2_p, zbp_0, zbp_1, zbp_inj, zbp_01, Nat.zero_add, Nat.reduceAdd, implies_true, List.nil_append, List.cons_append, List.append_assoc, Int.not_lt, Int.not_le, Decidable.not_not, Int.zero_add, Int.reduceLE, Int.reduceLT, Int.reduceEq, Int.reduceNe, Int.reduceAdd, Int.reduceSub, Int.reduceMul, Int.reduceNeg, Int.reduceToNat, Nat.reduceMul, Nat.reduceLT, Nat.reduceEqDiff, and_self, ite_true, ite_false, zx1, zx2, zRecv, List.length_cons, List.length_nil, ne_eq, not_true_eq_false, not_false_eq_true, true_or, or_true, or_false, false_or, and_false, false_and, zf01, zf10, reduceCtorEq, zSw_c, zSw_n, zm_r, zit_T, zit_F, false_implies, true_implies, zc_355, f_M_owed, g_M_owed])
  have hn := hdb.1
  have hok : okd (fM μ k) := hdb.2 k hk.1 hk.2
  have hok1 : (0 ≤ μ 357 (7 + 4 * k) ∧ μ 357 (7 + 4 * k) < 7) ∧ (0 ≤ μ 357 (7 + 4 * k + 1) ∧ μ 357 (7 + 4 * k + 1) < 7) ∧ μ 357 (7 + 4 * k) ≠ μ 357 (7 + 4 * k + 1) ∧ (1 ≤ μ 357 (7 + 4 * k + 2) ∧ μ 357 (7 + 4 * k + 2) ≤ 9999) ∧ 0 ≤ μ 357 (7 + 4 * k + 3) ∧ μ 357 (7 + 4 * k + 3) ≤ 999 := hok
  refine ⟨⟨zI_s (by omega) (by omega), zI_s (by omega) (by omega)⟩, ⟨⟨⟨⟨⟨by omega, zI_s (by omega) (by omega), by omega⟩, ⟨by omega, zI_s (by omega) (by omega), by omega⟩, hdb⟩, ⟨⟨zI_s (by omega) (by omega), by omega⟩, by omega⟩, hdb⟩, zI_s (by omega) (by omega), by omega⟩, ⟨zI_s (by omega) (by omega), by omega⟩, zI_s (by omega) (by omega)⟩, ?_⟩
  exact zCw.use (q_M_sets (d := 2) (Nat.le_refl _) (by omega)) (by omega) (fun q μ1 e => ⟨e.1, e.2.1, e.2.2⟩)

