theorem m_M_placeOf : Cond.static y_M_placeOf.1 ∈ zTb ∧ Cond.initialized y_M_placeOf.1.cls ∈ zTb ∧ Cond.code y_M_placeOf.1 y_M_placeOf.2.1 y_M_placeOf.2.2.1 y_M_placeOf.2.2.2 ∈ zTb ∧ (y_M_placeOf.1.cls ≠ "java/lang/invoke/MethodHandle" ∧ y_M_placeOf.1.cls ≠ "java/lang/invoke/VarHandle" ∧ (parseMethodDescriptor y_M_placeOf.1.desc).map (fun d => d.parameters.length) = some 2) ∧ y_M_placeOf.2.2.1 ≤ 20 :=
  ⟨(zTb_in 1549 (by decide +kernel) (by decide +kernel)), (zTb_in 151 (by decide +kernel) (by decide +kernel)), (zTb_in 1550 (by decide +kernel) (by decide +kernel)), by decide +kernel, by decide +kernel⟩
theorem ls_M_148 : zLs "DebtDoorsModel" 148 y_M_placeOf 2 := Or.inl ⟨(zTb_in 1548 (by decide +kernel) (by decide +kernel)), m_M_placeOf⟩
def y_M_of : zMt := (⟨"DebtDoorsModel", "of", "(II)I"⟩, prog_14_method_23_code, 3, some .int)
theorem d_M_of_0 : decode prog_14_method_23_code 0 = .ok (.aload_n 0, 1) := by decide +kernel
theorem d_M_of_1 : decode prog_14_method_23_code 1 = .ok (.iload_n 1, 1) := by decide +kernel
theorem d_M_of_2 : decode prog_14_method_23_code 2 = .ok (.invokevirtual 152, 3) := by decide +kernel
theorem d_M_of_5 : decode prog_14_method_23_code 5 = .ok (.ifCond .eq 25, 3) := by decide +kernel
theorem d_M_of_8 : decode prog_14_method_23_code 8 = .ok (.iload_n 2, 1) := by decide +kernel
theorem d_M_of_9 : decode prog_14_method_23_code 9 = .ok (.iconst 0, 1) := by decide +kernel
theorem d_M_of_10 : decode prog_14_method_23_code 10 = .ok (.iconst 2, 1) := by decide +kernel
theorem d_M_of_11 : decode prog_14_method_23_code 11 = .ok (.invokestatic 123, 3) := by decide +kernel
theorem d_M_of_14 : decode prog_14_method_23_code 14 = .ok (.ifCond .eq 16, 3) := by decide +kernel
theorem d_M_of_17 : decode prog_14_method_23_code 17 = .ok (.aload_n 0, 1) := by decide +kernel
theorem d_M_of_18 : decode prog_14_method_23_code 18 = .ok (.getfield 24, 3) := by decide +kernel
theorem d_M_of_21 : decode prog_14_method_23_code 21 = .ok (.iload_n 1, 1) := by decide +kernel
theorem d_M_of_22 : decode prog_14_method_23_code 22 = .ok (.iload_n 2, 1) := by decide +kernel
theorem d_M_of_23 : decode prog_14_method_23_code 23 = .ok (.invokestatic 148, 3) := by decide +kernel
theorem d_M_of_26 : decode prog_14_method_23_code 26 = .ok (.iaload, 1) := by decide +kernel
theorem d_M_of_27 : decode prog_14_method_23_code 27 = .ok (.goto 4, 3) := by decide +kernel
theorem d_M_of_30 : decode prog_14_method_23_code 30 = .ok (.iconst (-1), 1) := by decide +kernel
theorem d_M_of_31 : decode prog_14_method_23_code 31 = .ok (.ireturn, 1) := by decide +kernel
def w_M_of {d : Nat} (hd : 3 ≤ d) := (show SS ("DebtDoorsModel", prog_14_method_23_code, 3) (some .int) d 0 0 0 0 _ from (sRi (xE (rT2 (rAnd (mm := 8) (rNot (rJ1 (tgt := 30) k_eq (rV p_M_isPerson (Nat.le_trans (Nat.le_of_ble_eq_true rfl) hd) lv_M_152 (rAi (rAr rA0 (rAn 0 d_M_of_0 rfl)) (rIn 1 d_M_of_1 rfl)) (by decide) d_M_of_2) d_M_of_5 (by decide))) (rNot (rJ1 (tgt := 30) k_eq (rS p_M_lies (Nat.le_trans (Nat.le_of_ble_eq_true rfl) hd) ls_M_123 (rAi (rAi (rAi rA0 (rIn 2 d_M_of_8 rfl)) (rI d_M_of_9 rfl)) (rI d_M_of_10 rfl)) (by decide) d_M_of_11) d_M_of_14 (by decide)))) (rGoE (p2 := 31) (rIa (rFr fl_M_24 nk_12_2 (rAn 0 d_M_of_17 rfl) d_M_of_18) (rS p_M_placeOf (Nat.le_trans (Nat.le_of_ble_eq_true rfl) hd) ls_M_148 (rAi (rAi rA0 (rIn 1 d_M_of_21 rfl)) (rIn 2 d_M_of_22 rfl)) (by decide) d_M_of_23) d_M_of_26) d_M_of_27 (by decide)) (rI d_M_of_30 rfl))) d_M_of_31 rfl))
noncomputable def f_M_of : List zV → zMem → Int
  | [.inr (.inr (.inl q0)), .inl p, .inl w], μ => if (0 ≤ p ∧ p < μ 357 152) then (if w = 0 then μ 357 p else if w = 1 then μ 357 (73 + 2 * p) else if w = 2 then μ 357 (74 + 2 * p) else -1) else -1
  | _, _ => 0
def g_M_of : List zV → zMem → Prop
  | [.inr (.inr (.inl q0)), .inl p, .inl w], μ => q0 = 355 ∧ ((0 ≤ μ 357 152 ∧ μ 357 152 ≤ 7))
  | _, _ => False
theorem p_M_of : zPu y_M_of 3 f_M_of g_M_of := by
  intro as μ h
  unfold g_M_of at h
  split at h
  · next q0 p w =>
    obtain ⟨rfl, h⟩ := h
    refine zSp.ss [vr 355, vi p, vi w] rfl (w_M_of (Nat.le_refl _)) rfl rfl ?_
    (try simp only [zit_e, Bool.and_eq_true, Bool.or_eq_true, Bool.not_eq_true', Bool.and_eq_false_iff, Bool.or_eq_false_iff, Bool.not_eq_false', zbe, zdt, zdf, zb2_p, zbp_0, zbp_1, zbp_inj, zbp_01, Bool.true_eq_false, Bool.false_eq_true, true_and, and_true, Decidable.not_not, Classical.not_not, implies_true, List.nil_append, List.cons_append, List.append_assoc, Option.some.injEq, Sum.inl.injEq, zSw_c, zSw_n]); (try simp only [zit_e, Bool.and_eq_true, Bool.or_eq_true, Bool.not_eq_true', Bool.and_eq_false_iff, Bool.or_eq_false_iff, Bool.not_eq_false', zbe, zdt, zdf, zb2_p, zbp_0, zbp_1, zbp_inj, zbp_01, Bool.true_eq_false, Bool.false_eq_true, true_and, and_true, Decidable.not_not, Classical.not_not, implies_true, List.nil_append, List.cons_append, List.append_assoc, Option.some.injEq, Sum.inl.injEq, zSw_c, zSw_n, f_M_of, f_M_isPerson, g_M_isPerson, f_M_lies, g_M_lies, f_M_placeOf, g_M_placeOf, zc_355]); (try simp only [zi_cs, zi_c0, zii_cs, zii_c0, zl_cs, zl_c0, zll_cs, zll_c0, zr_cs, zr_c0, zrr_cs, zrr_c0, zxs_cs, zxs_c0, zxx_cs, zxx_c0, zfree_c0, zfree_c1, zfree_cs, zfree_cz, zlong_i, zlong_r, zlong_x, zset_0, zset_s, true_and, and_true, Option.some.injEq, Sum.inl.injEq, Sum.inr.injEq, zb2_p, zbp_0, zbp_1, zbp_inj, zbp_01, Nat.zero_add, Nat.reduceAdd, implies_true, List.nil_append, List.cons_append, List.append_assoc, Int.not_lt, Int.not_le, Decidable.not_not, Int.zero_add, Int.reduceLE, Int.reduceLT, Int.reduceEq, Int.reduceNe, Int.reduceAdd, Int.reduceSub, Int.reduceMul, Int.reduceNeg, Int.reduceToNat, Nat.reduceMul, Nat.reduceLT, Nat.reduceEqDiff, and_self, ite_true, ite_false, zx1, zx2, zRecv, List.length_cons, List.length_nil, ne_eq, not_true_eq_false, not_false_eq_true, true_or, or_true, or_false, false_or, and_false, false_and, zf01, zf10, reduceCtorEq, zSw_c, zSw_n, zm_r, zit_T, zit_F, false_implies, true_implies, f_M_of, f_M_isPerson, g_M_isPerson, f_M_lies, g_M_lies, f_M_placeOf, g_M_placeOf, zc_355])
    refine ⟨⟨h, fun c => ⟨by omega, by unfold zit; split <;> omega, by unfold zit; split <;> omega⟩⟩, ?_⟩
    by_cases c1 : 0 ≤ p ∧ p < μ 357 152
    · rw [zit_t c1]
      by_cases h0 : w = 0
      · rw [zit_t (by omega), zit_t h0, zit_t h0]
      · rw [zit_f h0, zit_f h0]
        by_cases h1 : w = 1
        · rw [zit_t (by omega), zit_t h1, h1]
          congr 1
          omega
        · rw [zit_f h1]
          by_cases h2 : w = 2
          · rw [zit_t (by omega), zit_t h2, h2]
            congr 1
            omega
          · rw [zit_f (by omega), zit_f h2]
    · rw [zit_f (by omega), zit_f c1]
  · exact h.elim
theorem fl_D_182 : zFl "DebtDoors" 182 9 7 := ⟨_, rfl, by decide, (zTb_in 253 (by decide +kernel) (by decide +kernel)), rfl⟩
theorem nk_9_7 : zNk 9 7 = some 0 := rfl
theorem fl_D_179 : zFl "DebtDoors" 179 1 6 := ⟨_, rfl, by decide, (zTb_in 207 (by decide +kernel) (by decide +kernel)), rfl⟩
theorem nk_1_6 : zNk 1 6 = some 0 := rfl
theorem fl_D_286 : zFl "DebtDoors" 286 9 11 := ⟨_, rfl, by decide, (zTb_in 264 (by decide +kernel) (by decide +kernel)), rfl⟩
theorem nk_9_11 : zNk 9 11 = some 0 := rfl
theorem nk_11_14 : zNk 11 14 = none := rfl
theorem fl_D_185 : zFl "DebtDoors" 185 6 2 := ⟨_, rfl, by decide, (zTb_in 328 (by decide +kernel) (by decide +kernel)), rfl⟩
theorem nk_6_2 : zNk 6 2 = some 0 := rfl
theorem fl_D_322 : zFl "DebtDoors" 322 10 3 := ⟨_, rfl, by decide, (zTb_in 306 (by decide +kernel) (by decide +kernel)), rfl⟩
theorem nk_10_3 : zNk 10 3 = some 0 := rfl
theorem nk_11_4 : zNk 11 4 = none := rfl
theorem fl_D_201 : zFl "DebtDoors" 201 9 10 := ⟨_, rfl, by decide, (zTb_in 261 (by decide +kernel) (by decide +kernel)), rfl⟩
theorem nk_9_10 : zNk 9 10 = some 0 := rfl
theorem fl_D_399 : zFl "DebtDoors" 399 9 9 := ⟨_, rfl, by decide, (zTb_in 259 (by decide +kernel) (by decide +kernel)), rfl⟩
theorem nk_9_9 : zNk 9 9 = some 0 := rfl
theorem fl_D_337 : zFl "DebtDoors" 337 9 8 := ⟨_, rfl, by decide, (zTb_in 257 (by decide +kernel) (by decide +kernel)), rfl⟩
theorem nk_9_8 : zNk 9 8 = some 0 := rfl
theorem fl_D_112 : zFl "DebtDoors" 112 9 6 := ⟨_, rfl, by decide, (zTb_in 248 (by decide +kernel) (by decide +kernel)), rfl⟩
def y_D_count : zMt := (⟨"DebtDoors", "count", "(I)I"⟩, prog_1_method_65_code, 2, some .int)
theorem d_D_count_0 : decode prog_1_method_65_code 0 = .ok (.iload_n 1, 1) := by decide +kernel
theorem d_D_count_1 : decode prog_1_method_65_code 1 = .ok (.tableswitch 197 0 14 #[75, 83, 94, 102, 110, 118, 126, 134, 141, 148, 155, 162, 170, 178, 189], 75) := by decide +kernel
theorem d_D_count_76 : decode prog_1_method_65_code 76 = .ok (.aload_n 0, 1) := by decide +kernel
theorem d_D_count_77 : decode prog_1_method_65_code 77 = .ok (.getfield 12, 3) := by decide +kernel
theorem d_D_count_80 : decode prog_1_method_65_code 80 = .ok (.getfield 112, 3) := by decide +kernel
theorem d_D_count_83 : decode prog_1_method_65_code 83 = .ok (.ireturn, 1) := by decide +kernel
theorem d_D_count_84 : decode prog_1_method_65_code 84 = .ok (.aload_n 0, 1) := by decide +kernel
theorem d_D_count_85 : decode prog_1_method_65_code 85 = .ok (.getfield 12, 3) := by decide +kernel
theorem d_D_count_88 : decode prog_1_method_65_code 88 = .ok (.getfield 115, 3) := by decide +kernel
theorem d_D_count_91 : decode prog_1_method_65_code 91 = .ok (.getfield 153, 3) := by decide +kernel
theorem d_D_count_94 : decode prog_1_method_65_code 94 = .ok (.ireturn, 1) := by decide +kernel
theorem d_D_count_95 : decode prog_1_method_65_code 95 = .ok (.aload_n 0, 1) := by decide +kernel
theorem d_D_count_96 : decode prog_1_method_65_code 96 = .ok (.getfield 12, 3) := by decide +kernel
theorem d_D_count_99 : decode prog_1_method_65_code 99 = .ok (.getfield 337, 3) := by decide +kernel
theorem d_D_count_102 : decode prog_1_method_65_code 102 = .ok (.ireturn, 1) := by decide +kernel
theorem d_D_count_103 : decode prog_1_method_65_code 103 = .ok (.aload_n 0, 1) := by decide +kernel
theorem d_D_count_104 : decode prog_1_method_65_code 104 = .ok (.getfield 12, 3) := by decide +kernel
theorem d_D_count_107 : decode prog_1_method_65_code 107 = .ok (.getfield 399, 3) := by decide +kernel
theorem d_D_count_110 : decode prog_1_method_65_code 110 = .ok (.ireturn, 1) := by decide +kernel
theorem d_D_count_111 : decode prog_1_method_65_code 111 = .ok (.aload_n 0, 1) := by decide +kernel
theorem d_D_count_112 : decode prog_1_method_65_code 112 = .ok (.getfield 12, 3) := by decide +kernel
theorem d_D_count_115 : decode prog_1_method_65_code 115 = .ok (.getfield 201, 3) := by decide +kernel
theorem d_D_count_118 : decode prog_1_method_65_code 118 = .ok (.ireturn, 1) := by decide +kernel
theorem d_D_count_119 : decode prog_1_method_65_code 119 = .ok (.aload_n 0, 1) := by decide +kernel
theorem d_D_count_120 : decode prog_1_method_65_code 120 = .ok (.getfield 34, 3) := by decide +kernel
theorem d_D_count_123 : decode prog_1_method_65_code 123 = .ok (.getfield 322, 3) := by decide +kernel
theorem d_D_count_126 : decode prog_1_method_65_code 126 = .ok (.ireturn, 1) := by decide +kernel
theorem d_D_count_127 : decode prog_1_method_65_code 127 = .ok (.aload_n 0, 1) := by decide +kernel
theorem d_D_count_128 : decode prog_1_method_65_code 128 = .ok (.getfield 44, 3) := by decide +kernel
theorem d_D_count_131 : decode prog_1_method_65_code 131 = .ok (.getfield 185, 3) := by decide +kernel
theorem d_D_count_134 : decode prog_1_method_65_code 134 = .ok (.ireturn, 1) := by decide +kernel
theorem d_D_count_135 : decode prog_1_method_65_code 135 = .ok (.aload_n 0, 1) := by decide +kernel
theorem d_D_count_136 : decode prog_1_method_65_code 136 = .ok (.getfield 94, 3) := by decide +kernel
theorem d_D_count_139 : decode prog_1_method_65_code 139 = .ok (.iconst 1, 1) := by decide +kernel
theorem d_D_count_140 : decode prog_1_method_65_code 140 = .ok (.iaload, 1) := by decide +kernel
theorem d_D_count_141 : decode prog_1_method_65_code 141 = .ok (.ireturn, 1) := by decide +kernel
theorem d_D_count_142 : decode prog_1_method_65_code 142 = .ok (.aload_n 0, 1) := by decide +kernel
theorem d_D_count_143 : decode prog_1_method_65_code 143 = .ok (.getfield 94, 3) := by decide +kernel
theorem d_D_count_146 : decode prog_1_method_65_code 146 = .ok (.iconst 2, 1) := by decide +kernel
theorem d_D_count_147 : decode prog_1_method_65_code 147 = .ok (.iaload, 1) := by decide +kernel
theorem d_D_count_148 : decode prog_1_method_65_code 148 = .ok (.ireturn, 1) := by decide +kernel
theorem d_D_count_149 : decode prog_1_method_65_code 149 = .ok (.aload_n 0, 1) := by decide +kernel
theorem d_D_count_150 : decode prog_1_method_65_code 150 = .ok (.getfield 94, 3) := by decide +kernel
theorem d_D_count_153 : decode prog_1_method_65_code 153 = .ok (.iconst 3, 1) := by decide +kernel
theorem d_D_count_154 : decode prog_1_method_65_code 154 = .ok (.iaload, 1) := by decide +kernel
theorem d_D_count_155 : decode prog_1_method_65_code 155 = .ok (.ireturn, 1) := by decide +kernel
theorem d_D_count_156 : decode prog_1_method_65_code 156 = .ok (.aload_n 0, 1) := by decide +kernel
theorem d_D_count_157 : decode prog_1_method_65_code 157 = .ok (.getfield 94, 3) := by decide +kernel
theorem d_D_count_160 : decode prog_1_method_65_code 160 = .ok (.iconst 5, 1) := by decide +kernel
theorem d_D_count_161 : decode prog_1_method_65_code 161 = .ok (.iaload, 1) := by decide +kernel
theorem d_D_count_162 : decode prog_1_method_65_code 162 = .ok (.ireturn, 1) := by decide +kernel
theorem d_D_count_163 : decode prog_1_method_65_code 163 = .ok (.aload_n 0, 1) := by decide +kernel
theorem d_D_count_164 : decode prog_1_method_65_code 164 = .ok (.getfield 94, 3) := by decide +kernel
theorem d_D_count_167 : decode prog_1_method_65_code 167 = .ok (.bipush 6, 2) := by decide +kernel
theorem d_D_count_169 : decode prog_1_method_65_code 169 = .ok (.iaload, 1) := by decide +kernel
theorem d_D_count_170 : decode prog_1_method_65_code 170 = .ok (.ireturn, 1) := by decide +kernel
theorem d_D_count_171 : decode prog_1_method_65_code 171 = .ok (.aload_n 0, 1) := by decide +kernel
theorem d_D_count_172 : decode prog_1_method_65_code 172 = .ok (.getfield 12, 3) := by decide +kernel
theorem d_D_count_175 : decode prog_1_method_65_code 175 = .ok (.getfield 286, 3) := by decide +kernel
theorem d_D_count_178 : decode prog_1_method_65_code 178 = .ok (.ireturn, 1) := by decide +kernel
theorem d_D_count_179 : decode prog_1_method_65_code 179 = .ok (.aload_n 0, 1) := by decide +kernel
theorem d_D_count_180 : decode prog_1_method_65_code 180 = .ok (.getfield 12, 3) := by decide +kernel
theorem d_D_count_183 : decode prog_1_method_65_code 183 = .ok (.getfield 115, 3) := by decide +kernel
theorem d_D_count_186 : decode prog_1_method_65_code 186 = .ok (.getfield 179, 3) := by decide +kernel
theorem d_D_count_189 : decode prog_1_method_65_code 189 = .ok (.ireturn, 1) := by decide +kernel
theorem d_D_count_190 : decode prog_1_method_65_code 190 = .ok (.aload_n 0, 1) := by decide +kernel
theorem d_D_count_191 : decode prog_1_method_65_code 191 = .ok (.getfield 12, 3) := by decide +kernel
theorem d_D_count_194 : decode prog_1_method_65_code 194 = .ok (.getfield 182, 3) := by decide +kernel
theorem d_D_count_197 : decode prog_1_method_65_code 197 = .ok (.ireturn, 1) := by decide +kernel
theorem d_D_count_198 : decode prog_1_method_65_code 198 = .ok (.iconst (-1), 1) := by decide +kernel
theorem d_D_count_199 : decode prog_1_method_65_code 199 = .ok (.ireturn, 1) := by decide +kernel
def w_D_count {d : Nat} (hd : 1 ≤ d) := (show SS ("DebtDoors", prog_1_method_65_code, 2) (some .int) d 0 0 0 0 _ from (sSw (ts := [76, 84, 95, 103, 111, 119, 127, 135, 142, 149, 156, 163, 171, 179, 190]) (dt := 198) (rIn 1 d_D_count_0 rfl) d_D_count_1 (by decide) (by decide) (by decide) (zSwk_c (sRi (xE (rF 6 fl_D_112 nk_9_6 (rFr fl_D_12 nk_11_0 (rAn 0 d_D_count_76 rfl) d_D_count_77) d_D_count_80 rfl)) d_D_count_83 rfl) (zSwk_c (sRi (xE (rF 5 fl_D_153 nk_1_5 (rFr fl_D_115 nk_9_0 (rFr fl_D_12 nk_11_0 (rAn 0 d_D_count_84 rfl) d_D_count_85) d_D_count_88) d_D_count_91 rfl)) d_D_count_94 rfl) (zSwk_c (sRi (xE (rF 8 fl_D_337 nk_9_8 (rFr fl_D_12 nk_11_0 (rAn 0 d_D_count_95 rfl) d_D_count_96) d_D_count_99 rfl)) d_D_count_102 rfl) (zSwk_c (sRi (xE (rF 9 fl_D_399 nk_9_9 (rFr fl_D_12 nk_11_0 (rAn 0 d_D_count_103 rfl) d_D_count_104) d_D_count_107 rfl)) d_D_count_110 rfl) (zSwk_c (sRi (xE (rF 10 fl_D_201 nk_9_10 (rFr fl_D_12 nk_11_0 (rAn 0 d_D_count_111 rfl) d_D_count_112) d_D_count_115 rfl)) d_D_count_118 rfl) (zSwk_c (sRi (xE (rF 3 fl_D_322 nk_10_3 (rFr fl_D_34 nk_11_4 (rAn 0 d_D_count_119 rfl) d_D_count_120) d_D_count_123 rfl)) d_D_count_126 rfl) (zSwk_c (sRi (xE (rF 2 fl_D_185 nk_6_2 (rFr fl_D_44 nk_11_6 (rAn 0 d_D_count_127 rfl) d_D_count_128) d_D_count_131 rfl)) d_D_count_134 rfl) (zSwk_c (sRi (xE (rIa (rFr fl_D_94 nk_11_14 (rAn 0 d_D_count_135 rfl) d_D_count_136) (rI d_D_count_139 rfl) d_D_count_140)) d_D_count_141 rfl) (zSwk_c (sRi (xE (rIa (rFr fl_D_94 nk_11_14 (rAn 0 d_D_count_142 rfl) d_D_count_143) (rI d_D_count_146 rfl) d_D_count_147)) d_D_count_148 rfl) (zSwk_c (sRi (xE (rIa (rFr fl_D_94 nk_11_14 (rAn 0 d_D_count_149 rfl) d_D_count_150) (rI d_D_count_153 rfl) d_D_count_154)) d_D_count_155 rfl) (zSwk_c (sRi (xE (rIa (rFr fl_D_94 nk_11_14 (rAn 0 d_D_count_156 rfl) d_D_count_157) (rI d_D_count_160 rfl) d_D_count_161)) d_D_count_162 rfl) (zSwk_c (sRi (xE (rIa (rFr fl_D_94 nk_11_14 (rAn 0 d_D_count_163 rfl) d_D_count_164) (rB d_D_count_167 rfl) d_D_count_169)) d_D_count_170 rfl) (zSwk_c (sRi (xE (rF 11 fl_D_286 nk_9_11 (rFr fl_D_12 nk_11_0 (rAn 0 d_D_count_171 rfl) d_D_count_172) d_D_count_175 rfl)) d_D_count_178 rfl) (zSwk_c (sRi (xE (rF 6 fl_D_179 nk_1_6 (rFr fl_D_115 nk_9_0 (rFr fl_D_12 nk_11_0 (rAn 0 d_D_count_179 rfl) d_D_count_180) d_D_count_183) d_D_count_186 rfl)) d_D_count_189 rfl) (zSwk_c (sRi (xE (rF 7 fl_D_182 nk_9_7 (rFr fl_D_12 nk_11_0 (rAn 0 d_D_count_190 rfl) d_D_count_191) d_D_count_194 rfl)) d_D_count_197 rfl) zSwk_n))))))))))))))) (sRi (xE (rI d_D_count_198 rfl)) d_D_count_199 rfl)))
noncomputable def f_D_count : List zV → zMem → Int
  | [.inr (.inr (.inl q0)), .inl w], μ => if w = 0 then μ 1 6 else if w = 1 then μ 2 5 else if w = 2 then μ 1 8 else if w = 3 then μ 1 9 else if w = 4 then μ 1 10 else if w = 5 then μ 111 3 else if w = 6 then μ 321 2 else if w = 7 then μ 354 1 else if w = 8 then μ 354 2 else if w = 9 then μ 354 3 else if w = 10 then μ 354 5 else if w = 11 then μ 354 6 else if w = 12 then μ 1 11 else if w = 13 then μ 2 6 else if w = 14 then μ 1 7 else -1
  | _, _ => 0
def g_D_count : List zV → zMem → Prop
  | [.inr (.inr (.inl q0)), .inl w], μ => q0 = 0 ∧ (True)
  | _, _ => False
theorem p_D_count : zPu y_D_count 1 f_D_count g_D_count := by
  intro as μ h
  unfold g_D_count at h
  split at h
  · next q0 w =>
    obtain ⟨rfl, h⟩ := h
    refine zSp.ss [vr 0, vi w] rfl (w_D_count (Nat.le_refl _)) rfl rfl ?_
    (try simp only [zit_e, Bool.and_eq_true, Bool.or_eq_true, Bool.not_eq_true', Bool.and_eq_false_iff, Bool.or_eq_false_iff, Bool.not_eq_false', zbe, zdt, zdf, zb2_p, zbp_0, zbp_1, zbp_inj, zbp_01, Bool.true_eq_false, Bool.false_eq_true, true_and, and_true, Decidable.not_not, Classical.not_not, implies_true, List.nil_append, List.cons_append, List.append_assoc, Option.some.injEq, Sum.inl.injEq, zSw_c, zSw_n]); (try simp only [zit_e, Bool.and_eq_true, Bool.or_eq_true, Bool.not_eq_true', Bool.and_eq_false_iff, Bool.or_eq_false_iff, Bool.not_eq_false', zbe, zdt, zdf, zb2_p, zbp_0, zbp_1, zbp_inj, zbp_01, Bool.true_eq_false, Bool.false_eq_true, true_and, and_true, Decidable.not_not, Classical.not_not, implies_true, List.nil_append, List.cons_append, List.append_assoc, Option.some.injEq, Sum.inl.injEq, zSw_c, zSw_n, f_D_count, zc_0, zc_1, zc_2, zc_111, zc_321]); (try simp only [zi_cs, zi_c0, zii_cs, zii_c0, zl_cs, zl_c0, zll_cs, zll_c0, zr_cs, zr_c0, zrr_cs, zrr_c0, zxs_cs, zxs_c0, zxx_cs, zxx_c0, zfree_c0, zfree_c1, zfree_cs, zfree_cz, zlong_i, zlong_r, zlong_x, zset_0, zset_s, true_and, and_true, Option.some.injEq, Sum.inl.injEq, Sum.inr.injEq, zb2_p, zbp_0, zbp_1, zbp_inj, zbp_01, Nat.zero_add, Nat.reduceAdd, implies_true, List.nil_append, List.cons_append, List.append_assoc, Int.not_lt, Int.not_le, Decidable.not_not, Int.zero_add, Int.reduceLE, Int.reduceLT, Int.reduceEq, Int.reduceNe, Int.reduceAdd, Int.reduceSub, Int.reduceMul, Int.reduceNeg, Int.reduceToNat, Nat.reduceMul, Nat.reduceLT, Nat.reduceEqDiff, and_self, ite_true, ite_false, zx1, zx2, zRecv, List.length_cons, List.length_nil, ne_eq, not_true_eq_false, not_false_eq_true, true_or, or_true, or_false, false_or, and_false, false_and, zf01, zf10, reduceCtorEq, zSw_c, zSw_n, zm_r, zit_T, zit_F, false_implies, true_implies, f_D_count, zc_0, zc_1, zc_2, zc_111, zc_321])
    repeat (refine zif (fun e => by (subst e; simp [zit, zI_e])) (fun e => ?_))
    simp [*, zit]
  · exact h.elim
theorem nk_12_1 : zNk 12 1 = none := rfl
theorem fl_M_181 : zFl "DebtDoorsModel" 181 12 11 := ⟨_, rfl, by decide, (zTb_in 1337 (by decide +kernel) (by decide +kernel)), rfl⟩
theorem nk_12_11 : zNk 12 11 = some 0 := rfl
theorem fl_M_11 : zFl "DebtDoorsModel" 11 12 28 := ⟨_, rfl, by decide, (zTb_in 1354 (by decide +kernel) (by decide +kernel)), rfl⟩
theorem nk_12_28 : zNk 12 28 = some 0 := rfl
def y_M_count : zMt := (⟨"DebtDoorsModel", "count", "(I)I"⟩, prog_14_method_143_code, 2, some .int)
theorem d_M_count_0 : decode prog_14_method_143_code 0 = .ok (.iload_n 1, 1) := by decide +kernel
theorem d_M_count_1 : decode prog_14_method_143_code 1 = .ok (.tableswitch 173 0 14 #[75, 80, 85, 94, 103, 112, 117, 122, 122, 122, 132, 139, 147, 156, 164], 75) := by decide +kernel
theorem d_M_count_76 : decode prog_14_method_143_code 76 = .ok (.aload_n 0, 1) := by decide +kernel
theorem d_M_count_77 : decode prog_14_method_143_code 77 = .ok (.invokevirtual 133, 3) := by decide +kernel
theorem d_M_count_80 : decode prog_14_method_143_code 80 = .ok (.ireturn, 1) := by decide +kernel
theorem d_M_count_81 : decode prog_14_method_143_code 81 = .ok (.aload_n 0, 1) := by decide +kernel
theorem d_M_count_82 : decode prog_14_method_143_code 82 = .ok (.invokevirtual 137, 3) := by decide +kernel
theorem d_M_count_85 : decode prog_14_method_143_code 85 = .ok (.ireturn, 1) := by decide +kernel
theorem d_M_count_86 : decode prog_14_method_143_code 86 = .ok (.aload_n 0, 1) := by decide +kernel
theorem d_M_count_87 : decode prog_14_method_143_code 87 = .ok (.getfield 24, 3) := by decide +kernel
theorem d_M_count_90 : decode prog_14_method_143_code 90 = .ok (.sipush 153, 3) := by decide +kernel
theorem d_M_count_93 : decode prog_14_method_143_code 93 = .ok (.iaload, 1) := by decide +kernel
theorem d_M_count_94 : decode prog_14_method_143_code 94 = .ok (.ireturn, 1) := by decide +kernel
theorem d_M_count_95 : decode prog_14_method_143_code 95 = .ok (.aload_n 0, 1) := by decide +kernel
theorem d_M_count_96 : decode prog_14_method_143_code 96 = .ok (.getfield 24, 3) := by decide +kernel
theorem d_M_count_99 : decode prog_14_method_143_code 99 = .ok (.sipush 154, 3) := by decide +kernel
theorem d_M_count_102 : decode prog_14_method_143_code 102 = .ok (.iaload, 1) := by decide +kernel
theorem d_M_count_103 : decode prog_14_method_143_code 103 = .ok (.ireturn, 1) := by decide +kernel
theorem d_M_count_104 : decode prog_14_method_143_code 104 = .ok (.aload_n 0, 1) := by decide +kernel
theorem d_M_count_105 : decode prog_14_method_143_code 105 = .ok (.getfield 24, 3) := by decide +kernel
theorem d_M_count_108 : decode prog_14_method_143_code 108 = .ok (.sipush 155, 3) := by decide +kernel
theorem d_M_count_111 : decode prog_14_method_143_code 111 = .ok (.iaload, 1) := by decide +kernel
theorem d_M_count_112 : decode prog_14_method_143_code 112 = .ok (.ireturn, 1) := by decide +kernel
theorem d_M_count_113 : decode prog_14_method_143_code 113 = .ok (.aload_n 0, 1) := by decide +kernel
theorem d_M_count_114 : decode prog_14_method_143_code 114 = .ok (.getfield 11, 3) := by decide +kernel
theorem d_M_count_117 : decode prog_14_method_143_code 117 = .ok (.ireturn, 1) := by decide +kernel
theorem d_M_count_118 : decode prog_14_method_143_code 118 = .ok (.aload_n 0, 1) := by decide +kernel
theorem d_M_count_119 : decode prog_14_method_143_code 119 = .ok (.getfield 181, 3) := by decide +kernel
theorem d_M_count_122 : decode prog_14_method_143_code 122 = .ok (.ireturn, 1) := by decide +kernel
theorem d_M_count_123 : decode prog_14_method_143_code 123 = .ok (.aload_n 0, 1) := by decide +kernel
theorem d_M_count_124 : decode prog_14_method_143_code 124 = .ok (.getfield 7, 3) := by decide +kernel
theorem d_M_count_127 : decode prog_14_method_143_code 127 = .ok (.iload_n 1, 1) := by decide +kernel
theorem d_M_count_128 : decode prog_14_method_143_code 128 = .ok (.bipush 6, 2) := by decide +kernel
theorem d_M_count_130 : decode prog_14_method_143_code 130 = .ok (.isub, 1) := by decide +kernel
theorem d_M_count_131 : decode prog_14_method_143_code 131 = .ok (.iaload, 1) := by decide +kernel
theorem d_M_count_132 : decode prog_14_method_143_code 132 = .ok (.ireturn, 1) := by decide +kernel
theorem d_M_count_133 : decode prog_14_method_143_code 133 = .ok (.aload_n 0, 1) := by decide +kernel
theorem d_M_count_134 : decode prog_14_method_143_code 134 = .ok (.getfield 7, 3) := by decide +kernel
theorem d_M_count_137 : decode prog_14_method_143_code 137 = .ok (.iconst 5, 1) := by decide +kernel
theorem d_M_count_138 : decode prog_14_method_143_code 138 = .ok (.iaload, 1) := by decide +kernel
theorem d_M_count_139 : decode prog_14_method_143_code 139 = .ok (.ireturn, 1) := by decide +kernel
theorem d_M_count_140 : decode prog_14_method_143_code 140 = .ok (.aload_n 0, 1) := by decide +kernel
theorem d_M_count_141 : decode prog_14_method_143_code 141 = .ok (.getfield 7, 3) := by decide +kernel
theorem d_M_count_144 : decode prog_14_method_143_code 144 = .ok (.bipush 6, 2) := by decide +kernel
theorem d_M_count_146 : decode prog_14_method_143_code 146 = .ok (.iaload, 1) := by decide +kernel
theorem d_M_count_147 : decode prog_14_method_143_code 147 = .ok (.ireturn, 1) := by decide +kernel
theorem d_M_count_148 : decode prog_14_method_143_code 148 = .ok (.aload_n 0, 1) := by decide +kernel
theorem d_M_count_149 : decode prog_14_method_143_code 149 = .ok (.getfield 24, 3) := by decide +kernel
theorem d_M_count_152 : decode prog_14_method_143_code 152 = .ok (.sipush 156, 3) := by decide +kernel
theorem d_M_count_155 : decode prog_14_method_143_code 155 = .ok (.iaload, 1) := by decide +kernel
theorem d_M_count_156 : decode prog_14_method_143_code 156 = .ok (.ireturn, 1) := by decide +kernel
theorem d_M_count_157 : decode prog_14_method_143_code 157 = .ok (.aload_n 0, 1) := by decide +kernel
theorem d_M_count_158 : decode prog_14_method_143_code 158 = .ok (.getfield 24, 3) := by decide +kernel
theorem d_M_count_161 : decode prog_14_method_143_code 161 = .ok (.bipush 72, 2) := by decide +kernel
theorem d_M_count_163 : decode prog_14_method_143_code 163 = .ok (.iaload, 1) := by decide +kernel
theorem d_M_count_164 : decode prog_14_method_143_code 164 = .ok (.ireturn, 1) := by decide +kernel
theorem d_M_count_165 : decode prog_14_method_143_code 165 = .ok (.aload_n 0, 1) := by decide +kernel
theorem d_M_count_166 : decode prog_14_method_143_code 166 = .ok (.getfield 24, 3) := by decide +kernel
theorem d_M_count_169 : decode prog_14_method_143_code 169 = .ok (.sipush 151, 3) := by decide +kernel
theorem d_M_count_172 : decode prog_14_method_143_code 172 = .ok (.iaload, 1) := by decide +kernel
theorem d_M_count_173 : decode prog_14_method_143_code 173 = .ok (.ireturn, 1) := by decide +kernel
theorem d_M_count_174 : decode prog_14_method_143_code 174 = .ok (.iconst (-1), 1) := by decide +kernel
theorem d_M_count_175 : decode prog_14_method_143_code 175 = .ok (.ireturn, 1) := by decide +kernel
def w_M_count {d : Nat} (hd : 2 ≤ d) := (show SS ("DebtDoorsModel", prog_14_method_143_code, 2) (some .int) d 0 0 0 0 _ from (sSw (ts := [76, 81, 86, 95, 104, 113, 118, 123, 123, 123, 133, 140, 148, 157, 165]) (dt := 174) (rIn 1 d_M_count_0 rfl) d_M_count_1 (by decide) (by decide) (by decide) (zSwk_c (sRi (xE (rV p_M_people (Nat.le_trans (Nat.le_of_ble_eq_true rfl) hd) lv_M_133 (rAr rA0 (rAn 0 d_M_count_76 rfl)) (by decide) d_M_count_77)) d_M_count_80 rfl) (zSwk_c (sRi (xE (rV p_M_debts (Nat.le_trans (Nat.le_of_ble_eq_true rfl) hd) lv_M_137 (rAr rA0 (rAn 0 d_M_count_81 rfl)) (by decide) d_M_count_82)) d_M_count_85 rfl) (zSwk_c (sRi (xE (rIa (rFr fl_M_24 nk_12_2 (rAn 0 d_M_count_86 rfl) d_M_count_87) (rSi d_M_count_90 rfl) d_M_count_93)) d_M_count_94 rfl) (zSwk_c (sRi (xE (rIa (rFr fl_M_24 nk_12_2 (rAn 0 d_M_count_95 rfl) d_M_count_96) (rSi d_M_count_99 rfl) d_M_count_102)) d_M_count_103 rfl) (zSwk_c (sRi (xE (rIa (rFr fl_M_24 nk_12_2 (rAn 0 d_M_count_104 rfl) d_M_count_105) (rSi d_M_count_108 rfl) d_M_count_111)) d_M_count_112 rfl) (zSwk_c (sRi (xE (rF 28 fl_M_11 nk_12_28 (rAn 0 d_M_count_113 rfl) d_M_count_114 rfl)) d_M_count_117 rfl) (zSwk_c (sRi (xE (rF 11 fl_M_181 nk_12_11 (rAn 0 d_M_count_118 rfl) d_M_count_119 rfl)) d_M_count_122 rfl) (zSwk_c (sRi (xE (rIa (rFr fl_M_7 nk_12_1 (rAn 0 d_M_count_123 rfl) d_M_count_124) (r2 o_sub (rIn 1 d_M_count_127 rfl) (rB d_M_count_128 rfl) d_M_count_130) d_M_count_131)) d_M_count_132 rfl) (zSwk_c (sRi (xE (rIa (rFr fl_M_7 nk_12_1 (rAn 0 d_M_count_123 rfl) d_M_count_124) (r2 o_sub (rIn 1 d_M_count_127 rfl) (rB d_M_count_128 rfl) d_M_count_130) d_M_count_131)) d_M_count_132 rfl) (zSwk_c (sRi (xE (rIa (rFr fl_M_7 nk_12_1 (rAn 0 d_M_count_123 rfl) d_M_count_124) (r2 o_sub (rIn 1 d_M_count_127 rfl) (rB d_M_count_128 rfl) d_M_count_130) d_M_count_131)) d_M_count_132 rfl) (zSwk_c (sRi (xE (rIa (rFr fl_M_7 nk_12_1 (rAn 0 d_M_count_133 rfl) d_M_count_134) (rI d_M_count_137 rfl) d_M_count_138)) d_M_count_139 rfl) (zSwk_c (sRi (xE (rIa (rFr fl_M_7 nk_12_1 (rAn 0 d_M_count_140 rfl) d_M_count_141) (rB d_M_count_144 rfl) d_M_count_146)) d_M_count_147 rfl) (zSwk_c (sRi (xE (rIa (rFr fl_M_24 nk_12_2 (rAn 0 d_M_count_148 rfl) d_M_count_149) (rSi d_M_count_152 rfl) d_M_count_155)) d_M_count_156 rfl) (zSwk_c (sRi (xE (rIa (rFr fl_M_24 nk_12_2 (rAn 0 d_M_count_157 rfl) d_M_count_158) (rB d_M_count_161 rfl) d_M_count_163)) d_M_count_164 rfl) (zSwk_c (sRi (xE (rIa (rFr fl_M_24 nk_12_2 (rAn 0 d_M_count_165 rfl) d_M_count_166) (rSi d_M_count_169 rfl) d_M_count_172)) d_M_count_173 rfl) zSwk_n))))))))))))))) (sRi (xE (rI d_M_count_174 rfl)) d_M_count_175 rfl)))
noncomputable def f_M_count : List zV → zMem → Int
  | [.inr (.inr (.inl q0)), .inl w], μ => if w = 0 then μ 357 152 else if w = 1 then μ 357 71 else if w = 2 then μ 357 153 else if w = 3 then μ 357 154 else if w = 4 then μ 357 155 else if w = 5 then μ 355 28 else if w = 6 then μ 355 11 else if w = 7 then μ 356 1 else if w = 8 then μ 356 2 else if w = 9 then μ 356 3 else if w = 10 then μ 356 5 else if w = 11 then μ 356 6 else if w = 12 then μ 357 156 else if w = 13 then μ 357 72 else if w = 14 then μ 357 151 else -1
  | _, _ => 0
def g_M_count : List zV → zMem → Prop
  | [.inr (.inr (.inl q0)), .inl w], μ => q0 = 355 ∧ (True)
  | _, _ => False
theorem p_M_count : zPu y_M_count 2 f_M_count g_M_count := by
  intro as μ h
  unfold g_M_count at h
  split at h
  · next q0 w =>
    obtain ⟨rfl, h⟩ := h
    refine zSp.ss [vr 355, vi w] rfl (w_M_count (Nat.le_refl _)) rfl rfl ?_
    (try simp only [zit_e, Bool.and_eq_true, Bool.or_eq_true, Bool.not_eq_true', Bool.and_eq_false_iff, Bool.or_eq_false_iff, Bool.not_eq_false', zbe, zdt, zdf, zb2_p, zbp_0, zbp_1, zbp_inj, zbp_01, Bool.true_eq_false, Bool.false_eq_true, true_and, and_true, Decidable.not_not, Classical.not_not, implies_true, List.nil_append, List.cons_append, List.append_assoc, Option.some.injEq, Sum.inl.injEq, zSw_c, zSw_n]); (try simp only [zit_e, Bool.and_eq_true, Bool.or_eq_true, Bool.not_eq_true', Bool.and_eq_false_iff, Bool.or_eq_false_iff, Bool.not_eq_false', zbe, zdt, zdf, zb2_p, zbp_0, zbp_1, zbp_inj, zbp_01, Bool.true_eq_false, Bool.false_eq_true, true_and, and_true, Decidable.not_not, Classical.not_not, implies_true, List.nil_append, List.cons_append, List.append_assoc, Option.some.injEq, Sum.inl.injEq, zSw_c, zSw_n, f_M_count, f_M_people, g_M_people, f_M_debts, g_M_debts, zc_355]); (try simp only [zi_cs, zi_c0, zii_cs, zii_c0, zl_cs, zl_c0, zll_cs, zll_c0, zr_cs, zr_c0, zrr_cs, zrr_c0, zxs_cs, zxs_c0, zxx_cs, zxx_c0, zfree_c0, zfree_c1, zfree_cs, zfree_cz, zlong_i, zlong_r, zlong_x, zset_0, zset_s, true_and, and_true, Option.some.injEq, Sum.inl.injEq, Sum.inr.injEq, zb2_p, zbp_0, zbp_1, zbp_inj, zbp_01, Nat.zero_add, Nat.reduceAdd, implies_true, List.nil_append, List.cons_append, List.append_assoc, Int.not_lt, Int.not_le, Decidable.not_not, Int.zero_add, Int.reduceLE, Int.reduceLT, Int.reduceEq, Int.reduceNe, Int.reduceAdd, Int.reduceSub, Int.reduceMul, Int.reduceNeg, Int.reduceToNat, Nat.reduceMul, Nat.reduceLT, Nat.reduceEqDiff, and_self, ite_true, ite_false, zx1, zx2, zRecv, List.length_cons, List.length_nil, ne_eq, not_true_eq_false, not_false_eq_true, true_or, or_true, or_false, false_or, and_false, false_and, zf01, zf10, reduceCtorEq, zSw_c, zSw_n, zm_r, zit_T, zit_F, false_implies, true_implies, f_M_count, f_M_people, g_M_people, f_M_debts, g_M_debts, zc_355])
    repeat (refine zif (fun e => by (subst e; simp [zit, zI_e])) (fun e => ?_))
    simp [*, zit]
  · exact h.elim

