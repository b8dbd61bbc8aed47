/-! lendings: the reference -/
def LnM (L : List D4) (μ : zMem) : Prop := ∀ i : Nat, i < L.length → (μ 371 i = (dfV L i).1 ∧ μ 372 i = (dfV L i).2.1) ∧ μ 373 i = (dfV L i).2.2.1 ∧ μ 374 i = (dfV L i).2.2.2
def fr34 (μ μ' : zMem) : Prop := ∀ j : Int, j ≠ 20 → j ≠ 21 → j ≠ 22 → j ≠ 23 → j ≠ 34 → μ' 355 j = μ 355 j
theorem fl_M_400 : zFl "DebtDoorsModel" 400 12 34 := ⟨_, rfl, by decide, (zTb_in 1360 (by decide +kernel) (by decide +kernel)), rfl⟩
theorem fp_12_34 : zFp 12 34 0 := ⟨_, rfl, rfl, rfl, by decide⟩
theorem nk_12_34 : zNk 12 34 = some 0 := rfl
theorem m_M_isAlike : Cond.instanceMethod y_M_isAlike.1 ∈ zTb ∧ Cond.selects y_M_isAlike.1.cls y_M_isAlike.1 y_M_isAlike.1 ∈ zTb ∧ Cond.initialized y_M_isAlike.1.cls ∈ zTb ∧ Cond.code y_M_isAlike.1 y_M_isAlike.2.1 y_M_isAlike.2.2.1 y_M_isAlike.2.2.2 ∈ zTb ∧ (y_M_isAlike.1.cls ≠ "java/lang/invoke/MethodHandle" ∧ y_M_isAlike.1.cls ≠ "java/lang/invoke/VarHandle" ∧ (parseMethodDescriptor y_M_isAlike.1.desc).map (fun d => d.parameters.length) = some 2) ∧ y_M_isAlike.2.2.1 ≤ 20 :=
  ⟨(zTb_in 1920 (by decide +kernel) (by decide +kernel)), (List.mem_filter.mpr ⟨List.mem_append_left _ (by decide +kernel), by decide +kernel⟩), (zTb_in 151 (by decide +kernel) (by decide +kernel)), (zTb_in 1921 (by decide +kernel) (by decide +kernel)), by decide +kernel, by decide +kernel⟩
theorem lv_M_403 : zLv "DebtDoorsModel" 403 y_M_isAlike 2 12 := ⟨⟨(zTb_in 1918 (by decide +kernel) (by decide +kernel)), m_M_isAlike.1, m_M_isAlike.2.1, m_M_isAlike.2.2⟩, _, rfl, rfl⟩
theorem nk_12_29 : zNk 12 29 = none := rfl
theorem nk_12_30 : zNk 12 30 = none := rfl
theorem nk_12_31 : zNk 12 31 = none := rfl
theorem nk_12_32 : zNk 12 32 = none := rfl
def y_M_listsLendings : zMt := (⟨"DebtDoorsModel", "listsLendings", "()Z"⟩, prog_14_method_108_code, 5, some .boolean)
theorem d_M_listsLendings_0 : decode prog_14_method_108_code 0 = .ok (.aload_n 0, 1) := by decide +kernel
theorem d_M_listsLendings_1 : decode prog_14_method_108_code 1 = .ok (.iconst 0, 1) := by decide +kernel
theorem d_M_listsLendings_2 : decode prog_14_method_108_code 2 = .ok (.putfield 400, 3) := by decide +kernel
theorem d_M_listsLendings_5 : decode prog_14_method_108_code 5 = .ok (.iconst 0, 1) := by decide +kernel
theorem d_M_listsLendings_6 : decode prog_14_method_108_code 6 = .ok (.istore_n 1, 1) := by decide +kernel
theorem d_M_listsLendings_7 : decode prog_14_method_108_code 7 = .ok (.iload_n 1, 1) := by decide +kernel
theorem d_M_listsLendings_8 : decode prog_14_method_108_code 8 = .ok (.aload_n 0, 1) := by decide +kernel
theorem d_M_listsLendings_9 : decode prog_14_method_108_code 9 = .ok (.getfield 24, 3) := by decide +kernel
theorem d_M_listsLendings_12 : decode prog_14_method_108_code 12 = .ok (.sipush 153, 3) := by decide +kernel
theorem d_M_listsLendings_15 : decode prog_14_method_108_code 15 = .ok (.iaload, 1) := by decide +kernel
theorem d_M_listsLendings_16 : decode prog_14_method_108_code 16 = .ok (.if_icmp .ge 228, 3) := by decide +kernel
theorem d_M_listsLendings_19 : decode prog_14_method_108_code 19 = .ok (.iconst 1, 1) := by decide +kernel
theorem d_M_listsLendings_20 : decode prog_14_method_108_code 20 = .ok (.istore_n 2, 1) := by decide +kernel
theorem d_M_listsLendings_21 : decode prog_14_method_108_code 21 = .ok (.iconst 0, 1) := by decide +kernel
theorem d_M_listsLendings_22 : decode prog_14_method_108_code 22 = .ok (.istore_n 3, 1) := by decide +kernel
theorem d_M_listsLendings_23 : decode prog_14_method_108_code 23 = .ok (.iconst 0, 1) := by decide +kernel
theorem d_M_listsLendings_24 : decode prog_14_method_108_code 24 = .ok (.istore 4, 2) := by decide +kernel
theorem d_M_listsLendings_26 : decode prog_14_method_108_code 26 = .ok (.iload 4, 2) := by decide +kernel
theorem d_M_listsLendings_28 : decode prog_14_method_108_code 28 = .ok (.aload_n 0, 1) := by decide +kernel
theorem d_M_listsLendings_29 : decode prog_14_method_108_code 29 = .ok (.getfield 24, 3) := by decide +kernel
theorem d_M_listsLendings_32 : decode prog_14_method_108_code 32 = .ok (.sipush 153, 3) := by decide +kernel
theorem d_M_listsLendings_35 : decode prog_14_method_108_code 35 = .ok (.iaload, 1) := by decide +kernel
theorem d_M_listsLendings_36 : decode prog_14_method_108_code 36 = .ok (.if_icmp .ge 75, 3) := by decide +kernel
theorem d_M_listsLendings_39 : decode prog_14_method_108_code 39 = .ok (.aload_n 0, 1) := by decide +kernel
theorem d_M_listsLendings_40 : decode prog_14_method_108_code 40 = .ok (.iload_n 1, 1) := by decide +kernel
theorem d_M_listsLendings_41 : decode prog_14_method_108_code 41 = .ok (.iload 4, 2) := by decide +kernel
theorem d_M_listsLendings_43 : decode prog_14_method_108_code 43 = .ok (.invokevirtual 403, 3) := by decide +kernel
theorem d_M_listsLendings_46 : decode prog_14_method_108_code 46 = .ok (.ifCond .ne 6, 3) := by decide +kernel
theorem d_M_listsLendings_49 : decode prog_14_method_108_code 49 = .ok (.goto 56, 3) := by decide +kernel
theorem d_M_listsLendings_52 : decode prog_14_method_108_code 52 = .ok (.iload_n 2, 1) := by decide +kernel
theorem d_M_listsLendings_53 : decode prog_14_method_108_code 53 = .ok (.ifCond .eq 13, 3) := by decide +kernel
theorem d_M_listsLendings_56 : decode prog_14_method_108_code 56 = .ok (.iload 4, 2) := by decide +kernel
theorem d_M_listsLendings_58 : decode prog_14_method_108_code 58 = .ok (.iload_n 1, 1) := by decide +kernel
theorem d_M_listsLendings_59 : decode prog_14_method_108_code 59 = .ok (.if_icmp .lt 7, 3) := by decide +kernel
theorem d_M_listsLendings_62 : decode prog_14_method_108_code 62 = .ok (.iconst 1, 1) := by decide +kernel
theorem d_M_listsLendings_63 : decode prog_14_method_108_code 63 = .ok (.goto 4, 3) := by decide +kernel
theorem d_M_listsLendings_66 : decode prog_14_method_108_code 66 = .ok (.iconst 0, 1) := by decide +kernel
theorem d_M_listsLendings_67 : decode prog_14_method_108_code 67 = .ok (.istore_n 2, 1) := by decide +kernel
theorem d_M_listsLendings_68 : decode prog_14_method_108_code 68 = .ok (.iload_n 3, 1) := by decide +kernel
theorem d_M_listsLendings_69 : decode prog_14_method_108_code 69 = .ok (.aload_n 0, 1) := by decide +kernel
theorem d_M_listsLendings_70 : decode prog_14_method_108_code 70 = .ok (.getfield 24, 3) := by decide +kernel
theorem d_M_listsLendings_73 : decode prog_14_method_108_code 73 = .ok (.bipush 87, 2) := by decide +kernel
theorem d_M_listsLendings_75 : decode prog_14_method_108_code 75 = .ok (.iconst 4, 1) := by decide +kernel
theorem d_M_listsLendings_76 : decode prog_14_method_108_code 76 = .ok (.iload 4, 2) := by decide +kernel
theorem d_M_listsLendings_78 : decode prog_14_method_108_code 78 = .ok (.imul, 1) := by decide +kernel
theorem d_M_listsLendings_79 : decode prog_14_method_108_code 79 = .ok (.iadd, 1) := by decide +kernel
theorem d_M_listsLendings_80 : decode prog_14_method_108_code 80 = .ok (.iconst 2, 1) := by decide +kernel
theorem d_M_listsLendings_81 : decode prog_14_method_108_code 81 = .ok (.iadd, 1) := by decide +kernel
theorem d_M_listsLendings_82 : decode prog_14_method_108_code 82 = .ok (.iaload, 1) := by decide +kernel
theorem d_M_listsLendings_83 : decode prog_14_method_108_code 83 = .ok (.if_icmp .ge 20, 3) := by decide +kernel
theorem d_M_listsLendings_86 : decode prog_14_method_108_code 86 = .ok (.aload_n 0, 1) := by decide +kernel
theorem d_M_listsLendings_87 : decode prog_14_method_108_code 87 = .ok (.getfield 24, 3) := by decide +kernel
theorem d_M_listsLendings_90 : decode prog_14_method_108_code 90 = .ok (.bipush 87, 2) := by decide +kernel
theorem d_M_listsLendings_92 : decode prog_14_method_108_code 92 = .ok (.iconst 4, 1) := by decide +kernel
theorem d_M_listsLendings_93 : decode prog_14_method_108_code 93 = .ok (.iload 4, 2) := by decide +kernel
theorem d_M_listsLendings_95 : decode prog_14_method_108_code 95 = .ok (.imul, 1) := by decide +kernel
theorem d_M_listsLendings_96 : decode prog_14_method_108_code 96 = .ok (.iadd, 1) := by decide +kernel
theorem d_M_listsLendings_97 : decode prog_14_method_108_code 97 = .ok (.iconst 2, 1) := by decide +kernel
theorem d_M_listsLendings_98 : decode prog_14_method_108_code 98 = .ok (.iadd, 1) := by decide +kernel
theorem d_M_listsLendings_99 : decode prog_14_method_108_code 99 = .ok (.iaload, 1) := by decide +kernel
theorem d_M_listsLendings_100 : decode prog_14_method_108_code 100 = .ok (.goto 4, 3) := by decide +kernel
theorem d_M_listsLendings_103 : decode prog_14_method_108_code 103 = .ok (.iload_n 3, 1) := by decide +kernel
theorem d_M_listsLendings_104 : decode prog_14_method_108_code 104 = .ok (.istore_n 3, 1) := by decide +kernel
theorem d_M_listsLendings_105 : decode prog_14_method_108_code 105 = .ok (.iinc 4 1, 3) := by decide +kernel
theorem d_M_listsLendings_108 : decode prog_14_method_108_code 108 = .ok (.goto (-82), 3) := by decide +kernel
theorem d_M_listsLendings_111 : decode prog_14_method_108_code 111 = .ok (.iload_n 2, 1) := by decide +kernel
theorem d_M_listsLendings_112 : decode prog_14_method_108_code 112 = .ok (.ifCond .ne 6, 3) := by decide +kernel
theorem d_M_listsLendings_115 : decode prog_14_method_108_code 115 = .ok (.goto 123, 3) := by decide +kernel
theorem d_M_listsLendings_118 : decode prog_14_method_108_code 118 = .ok (.aload_n 0, 1) := by decide +kernel
theorem d_M_listsLendings_119 : decode prog_14_method_108_code 119 = .ok (.aload_n 0, 1) := by decide +kernel
theorem d_M_listsLendings_120 : decode prog_14_method_108_code 120 = .ok (.getfield 24, 3) := by decide +kernel
theorem d_M_listsLendings_123 : decode prog_14_method_108_code 123 = .ok (.bipush 87, 2) := by decide +kernel
theorem d_M_listsLendings_125 : decode prog_14_method_108_code 125 = .ok (.iconst 4, 1) := by decide +kernel
theorem d_M_listsLendings_126 : decode prog_14_method_108_code 126 = .ok (.iload_n 1, 1) := by decide +kernel
theorem d_M_listsLendings_127 : decode prog_14_method_108_code 127 = .ok (.imul, 1) := by decide +kernel
theorem d_M_listsLendings_128 : decode prog_14_method_108_code 128 = .ok (.iadd, 1) := by decide +kernel
theorem d_M_listsLendings_129 : decode prog_14_method_108_code 129 = .ok (.iaload, 1) := by decide +kernel
theorem d_M_listsLendings_130 : decode prog_14_method_108_code 130 = .ok (.aload_n 0, 1) := by decide +kernel
theorem d_M_listsLendings_131 : decode prog_14_method_108_code 131 = .ok (.getfield 24, 3) := by decide +kernel
theorem d_M_listsLendings_134 : decode prog_14_method_108_code 134 = .ok (.bipush 87, 2) := by decide +kernel
theorem d_M_listsLendings_136 : decode prog_14_method_108_code 136 = .ok (.iconst 4, 1) := by decide +kernel
theorem d_M_listsLendings_137 : decode prog_14_method_108_code 137 = .ok (.iload_n 1, 1) := by decide +kernel
theorem d_M_listsLendings_138 : decode prog_14_method_108_code 138 = .ok (.imul, 1) := by decide +kernel
theorem d_M_listsLendings_139 : decode prog_14_method_108_code 139 = .ok (.iadd, 1) := by decide +kernel
theorem d_M_listsLendings_140 : decode prog_14_method_108_code 140 = .ok (.iconst 1, 1) := by decide +kernel
theorem d_M_listsLendings_141 : decode prog_14_method_108_code 141 = .ok (.iadd, 1) := by decide +kernel
theorem d_M_listsLendings_142 : decode prog_14_method_108_code 142 = .ok (.iaload, 1) := by decide +kernel
theorem d_M_listsLendings_143 : decode prog_14_method_108_code 143 = .ok (.iload_n 3, 1) := by decide +kernel
theorem d_M_listsLendings_144 : decode prog_14_method_108_code 144 = .ok (.invokevirtual 390, 3) := by decide +kernel
theorem d_M_listsLendings_147 : decode prog_14_method_108_code 147 = .ok (.istore 4, 2) := by decide +kernel
theorem d_M_listsLendings_149 : decode prog_14_method_108_code 149 = .ok (.iload 4, 2) := by decide +kernel
theorem d_M_listsLendings_151 : decode prog_14_method_108_code 151 = .ok (.iconst (-1), 1) := by decide +kernel
theorem d_M_listsLendings_152 : decode prog_14_method_108_code 152 = .ok (.if_icmp .ne 5, 3) := by decide +kernel
theorem d_M_listsLendings_155 : decode prog_14_method_108_code 155 = .ok (.iconst 0, 1) := by decide +kernel
theorem d_M_listsLendings_156 : decode prog_14_method_108_code 156 = .ok (.ireturn, 1) := by decide +kernel
theorem d_M_listsLendings_157 : decode prog_14_method_108_code 157 = .ok (.iload 4, 2) := by decide +kernel
theorem d_M_listsLendings_159 : decode prog_14_method_108_code 159 = .ok (.ifCond .ne 6, 3) := by decide +kernel
theorem d_M_listsLendings_162 : decode prog_14_method_108_code 162 = .ok (.goto 76, 3) := by decide +kernel
theorem d_M_listsLendings_165 : decode prog_14_method_108_code 165 = .ok (.aload_n 0, 1) := by decide +kernel
theorem d_M_listsLendings_166 : decode prog_14_method_108_code 166 = .ok (.getfield 71, 3) := by decide +kernel
theorem d_M_listsLendings_169 : decode prog_14_method_108_code 169 = .ok (.aload_n 0, 1) := by decide +kernel
theorem d_M_listsLendings_170 : decode prog_14_method_108_code 170 = .ok (.getfield 400, 3) := by decide +kernel
theorem d_M_listsLendings_173 : decode prog_14_method_108_code 173 = .ok (.aload_n 0, 1) := by decide +kernel
theorem d_M_listsLendings_174 : decode prog_14_method_108_code 174 = .ok (.getfield 24, 3) := by decide +kernel
theorem d_M_listsLendings_177 : decode prog_14_method_108_code 177 = .ok (.bipush 87, 2) := by decide +kernel
theorem d_M_listsLendings_179 : decode prog_14_method_108_code 179 = .ok (.iconst 4, 1) := by decide +kernel
theorem d_M_listsLendings_180 : decode prog_14_method_108_code 180 = .ok (.iload_n 1, 1) := by decide +kernel
theorem d_M_listsLendings_181 : decode prog_14_method_108_code 181 = .ok (.imul, 1) := by decide +kernel
theorem d_M_listsLendings_182 : decode prog_14_method_108_code 182 = .ok (.iadd, 1) := by decide +kernel
theorem d_M_listsLendings_183 : decode prog_14_method_108_code 183 = .ok (.iaload, 1) := by decide +kernel
theorem d_M_listsLendings_184 : decode prog_14_method_108_code 184 = .ok (.iastore, 1) := by decide +kernel
theorem d_M_listsLendings_185 : decode prog_14_method_108_code 185 = .ok (.aload_n 0, 1) := by decide +kernel
theorem d_M_listsLendings_186 : decode prog_14_method_108_code 186 = .ok (.getfield 74, 3) := by decide +kernel
theorem d_M_listsLendings_189 : decode prog_14_method_108_code 189 = .ok (.aload_n 0, 1) := by decide +kernel
theorem d_M_listsLendings_190 : decode prog_14_method_108_code 190 = .ok (.getfield 400, 3) := by decide +kernel
theorem d_M_listsLendings_193 : decode prog_14_method_108_code 193 = .ok (.aload_n 0, 1) := by decide +kernel
theorem d_M_listsLendings_194 : decode prog_14_method_108_code 194 = .ok (.getfield 24, 3) := by decide +kernel
theorem d_M_listsLendings_197 : decode prog_14_method_108_code 197 = .ok (.bipush 87, 2) := by decide +kernel
theorem d_M_listsLendings_199 : decode prog_14_method_108_code 199 = .ok (.iconst 4, 1) := by decide +kernel
theorem d_M_listsLendings_200 : decode prog_14_method_108_code 200 = .ok (.iload_n 1, 1) := by decide +kernel
theorem d_M_listsLendings_201 : decode prog_14_method_108_code 201 = .ok (.imul, 1) := by decide +kernel
theorem d_M_listsLendings_202 : decode prog_14_method_108_code 202 = .ok (.iadd, 1) := by decide +kernel
theorem d_M_listsLendings_203 : decode prog_14_method_108_code 203 = .ok (.iconst 1, 1) := by decide +kernel
theorem d_M_listsLendings_204 : decode prog_14_method_108_code 204 = .ok (.iadd, 1) := by decide +kernel
theorem d_M_listsLendings_205 : decode prog_14_method_108_code 205 = .ok (.iaload, 1) := by decide +kernel
theorem d_M_listsLendings_206 : decode prog_14_method_108_code 206 = .ok (.iastore, 1) := by decide +kernel
theorem d_M_listsLendings_207 : decode prog_14_method_108_code 207 = .ok (.aload_n 0, 1) := by decide +kernel
theorem d_M_listsLendings_208 : decode prog_14_method_108_code 208 = .ok (.getfield 77, 3) := by decide +kernel
theorem d_M_listsLendings_211 : decode prog_14_method_108_code 211 = .ok (.aload_n 0, 1) := by decide +kernel
theorem d_M_listsLendings_212 : decode prog_14_method_108_code 212 = .ok (.getfield 400, 3) := by decide +kernel
theorem d_M_listsLendings_215 : decode prog_14_method_108_code 215 = .ok (.iload 4, 2) := by decide +kernel
theorem d_M_listsLendings_217 : decode prog_14_method_108_code 217 = .ok (.iastore, 1) := by decide +kernel
theorem d_M_listsLendings_218 : decode prog_14_method_108_code 218 = .ok (.aload_n 0, 1) := by decide +kernel
theorem d_M_listsLendings_219 : decode prog_14_method_108_code 219 = .ok (.getfield 80, 3) := by decide +kernel
theorem d_M_listsLendings_222 : decode prog_14_method_108_code 222 = .ok (.aload_n 0, 1) := by decide +kernel
theorem d_M_listsLendings_223 : decode prog_14_method_108_code 223 = .ok (.getfield 400, 3) := by decide +kernel
theorem d_M_listsLendings_226 : decode prog_14_method_108_code 226 = .ok (.iload_n 1, 1) := by decide +kernel
theorem d_M_listsLendings_227 : decode prog_14_method_108_code 227 = .ok (.iastore, 1) := by decide +kernel
theorem d_M_listsLendings_228 : decode prog_14_method_108_code 228 = .ok (.aload_n 0, 1) := by decide +kernel
theorem d_M_listsLendings_229 : decode prog_14_method_108_code 229 = .ok (.dup, 1) := by decide +kernel
theorem d_M_listsLendings_230 : decode prog_14_method_108_code 230 = .ok (.getfield 400, 3) := by decide +kernel
theorem d_M_listsLendings_233 : decode prog_14_method_108_code 233 = .ok (.iconst 1, 1) := by decide +kernel
theorem d_M_listsLendings_234 : decode prog_14_method_108_code 234 = .ok (.iadd, 1) := by decide +kernel
theorem d_M_listsLendings_235 : decode prog_14_method_108_code 235 = .ok (.putfield 400, 3) := by decide +kernel
theorem d_M_listsLendings_238 : decode prog_14_method_108_code 238 = .ok (.iinc 1 1, 3) := by decide +kernel
theorem d_M_listsLendings_241 : decode prog_14_method_108_code 241 = .ok (.goto (-234), 3) := by decide +kernel
theorem d_M_listsLendings_244 : decode prog_14_method_108_code 244 = .ok (.iconst 1, 1) := by decide +kernel
theorem d_M_listsLendings_245 : decode prog_14_method_108_code 245 = .ok (.ireturn, 1) := by decide +kernel
def w_M_listsLendings {d : Nat} (hd : 2 ≤ d) := (show SS ("DebtDoorsModel", prog_14_method_108_code, 5) (some .boolean) d 0 0 0 0 _ from (sS (p1 := 5) (sP 34 fl_M_400 fp_12_34 nk_12_34 (rAn 0 d_M_listsLendings_0 rfl) (xE (rI d_M_listsLendings_1 rfl)) d_M_listsLendings_2 rfl) (sS (p1 := 244) (sS (p1 := 7) (sIn 1 (xE (rI d_M_listsLendings_5 rfl)) d_M_listsLendings_6 rfl (by decide)) (sLp (ps := 238) (tt := 19) (pn := 244) (p1 := 0) (p2 := 0) (xC (rNot (rJ2 (tgt := 244) j_ge (rIn 1 d_M_listsLendings_7 rfl) (rIa (rFr fl_M_24 nk_12_2 (rAn 0 d_M_listsLendings_8 rfl) d_M_listsLendings_9) (rSi d_M_listsLendings_12 rfl) d_M_listsLendings_15) d_M_listsLendings_16 (by decide)))) (sS (p1 := 21) (sIn 2 (xE (rI d_M_listsLendings_19 rfl)) d_M_listsLendings_20 rfl (by decide)) (sS (p1 := 23) (sIn 3 (xE (rI d_M_listsLendings_21 rfl)) d_M_listsLendings_22 rfl (by decide)) (sS (p1 := 111) (sS (p1 := 26) (sI (xE (rI d_M_listsLendings_23 rfl)) d_M_listsLendings_24 (by decide)) (sLp (ps := 105) (tt := 39) (pn := 111) (p1 := 0) (p2 := 0) (xC (rNot (rJ2 (tgt := 111) j_ge (rIl d_M_listsLendings_26) (rIa (rFr fl_M_24 nk_12_2 (rAn 0 d_M_listsLendings_28 rfl) d_M_listsLendings_29) (rSi d_M_listsLendings_32 rfl) d_M_listsLendings_35) d_M_listsLendings_36 (by decide)))) (sS (p1 := 52) (sIf (pn := 52) (tt := 105) (xC (rNot (rGf (p2 := 105) (rJ1 (tgt := 52) k_ne (rV p_M_isAlike (Nat.le_trans (Nat.le_of_ble_eq_true rfl) hd) lv_M_403 (rAi (rAi (rAr rA0 (rAn 0 d_M_listsLendings_39 rfl)) (rIn 1 d_M_listsLendings_40 rfl)) (rIl d_M_listsLendings_41)) (by decide) d_M_listsLendings_43) d_M_listsLendings_46 (by decide)) d_M_listsLendings_49 (by decide)))) sCo0) (sS (p1 := 68) (sIn 2 (xE (rTb (rAnd (mm := 56) (rNot (rJ1 (tgt := 66) k_eq (rIn 2 d_M_listsLendings_52 rfl) d_M_listsLendings_53 (by decide))) (rNot (rJ2 (tgt := 66) j_lt (rIl d_M_listsLendings_56) (rIn 1 d_M_listsLendings_58 rfl) d_M_listsLendings_59 (by decide)))) (rGoE (p2 := 67) (rI d_M_listsLendings_62 rfl) d_M_listsLendings_63 (by decide)) (rI d_M_listsLendings_66 rfl))) d_M_listsLendings_67 rfl (by decide)) (sIn 3 (xE (rT2 (rNot (rJ2 (tgt := 103) j_ge (rIn 3 d_M_listsLendings_68 rfl) (rIa (rFr fl_M_24 nk_12_2 (rAn 0 d_M_listsLendings_69 rfl) d_M_listsLendings_70) (r2 o_add (r2 o_add (rB d_M_listsLendings_73 rfl) (r2 o_mul (rI d_M_listsLendings_75 rfl) (rIl d_M_listsLendings_76) d_M_listsLendings_78) d_M_listsLendings_79) (rI d_M_listsLendings_80 rfl) d_M_listsLendings_81) d_M_listsLendings_82) d_M_listsLendings_83 (by decide))) (rGoE (p2 := 104) (rIa (rFr fl_M_24 nk_12_2 (rAn 0 d_M_listsLendings_86 rfl) d_M_listsLendings_87) (r2 o_add (r2 o_add (rB d_M_listsLendings_90 rfl) (r2 o_mul (rI d_M_listsLendings_92 rfl) (rIl d_M_listsLendings_93) d_M_listsLendings_95) d_M_listsLendings_96) (rI d_M_listsLendings_97 rfl) d_M_listsLendings_98) d_M_listsLendings_99) d_M_listsLendings_100 (by decide)) (rIn 3 d_M_listsLendings_103 rfl))) d_M_listsLendings_104 rfl (by decide)))) (sGo (pn := 26) (sInc d_M_listsLendings_105 (by decide)) d_M_listsLendings_108 (by decide)))) (sS (p1 := 118) (sIf (pn := 118) (tt := 238) (xC (rNot (rGf (p2 := 238) (rJ1 (tgt := 118) k_ne (rIn 2 d_M_listsLendings_111 rfl) d_M_listsLendings_112 (by decide)) d_M_listsLendings_115 (by decide)))) sCo0) (sS (p1 := 149) (sI (xV lv_M_390 (xA (rAi (rAi (rAi (rAr rA0 (rAn 0 d_M_listsLendings_118 rfl)) (rIa (rFr fl_M_24 nk_12_2 (rAn 0 d_M_listsLendings_119 rfl) d_M_listsLendings_120) (r2 o_add (rB d_M_listsLendings_123 rfl) (r2 o_mul (rI d_M_listsLendings_125 rfl) (rIn 1 d_M_listsLendings_126 rfl) d_M_listsLendings_127) d_M_listsLendings_128) d_M_listsLendings_129)) (rIa (rFr fl_M_24 nk_12_2 (rAn 0 d_M_listsLendings_130 rfl) d_M_listsLendings_131) (r2 o_add (r2 o_add (rB d_M_listsLendings_134 rfl) (r2 o_mul (rI d_M_listsLendings_136 rfl) (rIn 1 d_M_listsLendings_137 rfl) d_M_listsLendings_138) d_M_listsLendings_139) (rI d_M_listsLendings_140 rfl) d_M_listsLendings_141) d_M_listsLendings_142)) (rIn 3 d_M_listsLendings_143 rfl))) (by decide) d_M_listsLendings_144) d_M_listsLendings_147 (by decide)) (sS (p1 := 157) (sIf (pn := 157) (tt := 155) (xC (rNot (rJ2 (tgt := 157) j_ne (rIl d_M_listsLendings_149) (rI d_M_listsLendings_151 rfl) d_M_listsLendings_152 (by decide)))) (sRz (xE (rI d_M_listsLendings_155 rfl)) d_M_listsLendings_156 rfl)) (sS (p1 := 165) (sIf (pn := 165) (tt := 238) (xC (rGt (p2 := 238) (rNot (rJ1 (tgt := 165) k_ne (rIl d_M_listsLendings_157) d_M_listsLendings_159 (by decide))) d_M_listsLendings_162 (by decide))) sCo0) (sS (p1 := 185) (sAs (rFr fl_M_71 nk_12_29 (rAn 0 d_M_listsLendings_165 rfl) d_M_listsLendings_166) (rF 34 fl_M_400 nk_12_34 (rAn 0 d_M_listsLendings_169 rfl) d_M_listsLendings_170 rfl) (xE (rIa (rFr fl_M_24 nk_12_2 (rAn 0 d_M_listsLendings_173 rfl) d_M_listsLendings_174) (r2 o_add (rB d_M_listsLendings_177 rfl) (r2 o_mul (rI d_M_listsLendings_179 rfl) (rIn 1 d_M_listsLendings_180 rfl) d_M_listsLendings_181) d_M_listsLendings_182) d_M_listsLendings_183)) d_M_listsLendings_184) (sS (p1 := 207) (sAs (rFr fl_M_74 nk_12_30 (rAn 0 d_M_listsLendings_185 rfl) d_M_listsLendings_186) (rF 34 fl_M_400 nk_12_34 (rAn 0 d_M_listsLendings_189 rfl) d_M_listsLendings_190 rfl) (xE (rIa (rFr fl_M_24 nk_12_2 (rAn 0 d_M_listsLendings_193 rfl) d_M_listsLendings_194) (r2 o_add (r2 o_add (rB d_M_listsLendings_197 rfl) (r2 o_mul (rI d_M_listsLendings_199 rfl) (rIn 1 d_M_listsLendings_200 rfl) d_M_listsLendings_201) d_M_listsLendings_202) (rI d_M_listsLendings_203 rfl) d_M_listsLendings_204) d_M_listsLendings_205)) d_M_listsLendings_206) (sS (p1 := 218) (sAs (rFr fl_M_77 nk_12_31 (rAn 0 d_M_listsLendings_207 rfl) d_M_listsLendings_208) (rF 34 fl_M_400 nk_12_34 (rAn 0 d_M_listsLendings_211 rfl) d_M_listsLendings_212 rfl) (xE (rIl d_M_listsLendings_215)) d_M_listsLendings_217) (sS (p1 := 228) (sAs (rFr fl_M_80 nk_12_32 (rAn 0 d_M_listsLendings_218 rfl) d_M_listsLendings_219) (rF 34 fl_M_400 nk_12_34 (rAn 0 d_M_listsLendings_222 rfl) d_M_listsLendings_223 rfl) (xE (rIn 1 d_M_listsLendings_226 rfl)) d_M_listsLendings_227) (sPo 34 o_add fl_M_400 fp_12_34 nk_12_34 (rAn 0 d_M_listsLendings_228 rfl) d_M_listsLendings_229 d_M_listsLendings_230 (rI d_M_listsLendings_233 rfl) d_M_listsLendings_234 d_M_listsLendings_235 rfl)))))))))))) (sGo (pn := 7) (sInc d_M_listsLendings_238 (by decide)) d_M_listsLendings_241 (by decide)))) (sRz (xE (rI d_M_listsLendings_244 rfl)) d_M_listsLendings_245 rfl))))
set_option maxRecDepth 20000 in
theorem q_M_listsLendings {d : Nat} (hd : 50 ≤ d) {μ : zMem} {Z : Zt} {F : Option (List Cls)} {A : Lg} {w : Int → Int} {V : List D4} (hC : MTx μ Z F A w) (hV : VMx 87 153 999 μ V) : zSp d 0 0 y_M_listsLendings zT0 [vr 355] μ zT0 (fun q μ' => zfc [355, 367, 371, 372, 373, 374] μ μ' ∧ fr34 μ μ' ∧ ((lgS (ndA Z F A w) V V.length = none → q = some (vi 0)) ∧ ∀ L, lgS (ndA Z F A w) V V.length = some L → q = some (vi 1) ∧ μ' 355 34 = (L.length : Int) ∧ LnM L μ')) := by
  have h8 := hV.1
  have hl := hV.l
  refine zSp.ss [vr 355, vx 0, vx 0, vx 0, vx 0] rfl (w_M_listsLendings (Nat.le_trans (by decide) hd)) rfl rfl ?_
  (try simp only [zit_e, Bool.and_eq_true, Bool.or_eq_true, Bool.not_eq_true', Bool.and_eq_false_iff, Bool.or_eq_false_iff, Bool.not_eq_false', zbe, zdt, zdf, zb2_p, zbp_0, zbp_1, zbp_inj, zbp_01, Bool.true_eq_false, Bool.false_eq_true, true_and, and_true, Decidable.not_not, Classical.not_not, implies_true, List.nil_append, List.cons_append, List.append_assoc, Option.some.injEq, Sum.inl.injEq, zSw_c, zSw_n]); (try simp only [zit_e, Bool.and_eq_true, Bool.or_eq_true, Bool.not_eq_true', Bool.and_eq_false_iff, Bool.or_eq_false_iff, Bool.not_eq_false', zbe, zdt, zdf, zb2_p, zbp_0, zbp_1, zbp_inj, zbp_01, Bool.true_eq_false, Bool.false_eq_true, true_and, and_true, Decidable.not_not, Classical.not_not, implies_true, List.nil_append, List.cons_append, List.append_assoc, Option.some.injEq, Sum.inl.injEq, zSw_c, zSw_n, zc_355]); (try simp only [zi_cs, zi_c0, zii_cs, zii_c0, zl_cs, zl_c0, zll_cs, zll_c0, zr_cs, zr_c0, zrr_cs, zrr_c0, zxs_cs, zxs_c0, zxx_cs, zxx_c0, zfree_c0, zfree_c1, zfree_cs, zfree_cz, zlong_i, zlong_r, zlong_x, zset_0, zset_s, true_and, and_true, Option.some.injEq, Sum.inl.injEq, Sum.inr.injEq, zb2_p, zbp_0, zbp_1, zbp_inj, zbp_01, Nat.zero_add, Nat.reduceAdd, implies_true, List.nil_append, List.cons_append, List.append_assoc, Int.not_lt, Int.not_le, Decidable.not_not, Int.zero_add, Int.reduceLE, Int.reduceLT, Int.reduceEq, Int.reduceNe, Int.reduceAdd, Int.reduceSub, Int.reduceMul, Int.reduceNeg, Int.reduceToNat, Nat.reduceMul, Nat.reduceLT, Nat.reduceEqDiff, and_self, ite_true, ite_false, zx1, zx2, zRecv, List.length_cons, List.length_nil, ne_eq, not_true_eq_false, not_false_eq_true, true_or, or_true, or_false, false_or, and_false, false_and, zf01, zf10, reduceCtorEq, zSw_c, zSw_n, zm_r, zit_T, zit_F, false_implies, true_implies, zc_355])
  refine zLoop.up V.length (fun j ρ μ1 => ∃ x2 x3 x4 : zV, ρ = [vr 355, vi j, x2, x3, x4] ∧ zfc [355, 367, 371, 372, 373, 374] μ μ1 ∧ fr34 μ μ1 ∧ ∃ L, lgS (ndA Z F A w) V j = some L ∧ μ1 355 34 = (L.length : Int) ∧ LnM L μ1) ⟨_, _, _, rfl, zfc.rf.zm (by decide), fun i _ _ _ _ h34 => zm_o (Or.inr h34), [], rfl, zm_s, fun i hi => absurd hi (Nat.not_lt_zero i)⟩ ?_
  rintro j ρ μ1 hj ⟨x2, x3, x4, rfl, hF, hf, L, hL, h5, hA⟩
  have hC1 : MTx μ1 Z F A w := hC.k (hF 357 (by decide))
  have hV1 : VMx 87 153 999 μ1 V := hV.k (hF 357 (by decide))
  have hl1 := hV1.l
  have hin := lgS_in (nd := ndA Z F A w) hV.2.2 (fun _ _ _ => ndA_in) j hj L hL
  (try simp only [zit_e, Bool.and_eq_true, Bool.or_eq_true, Bool.not_eq_true', Bool.and_eq_false_iff, Bool.or_eq_false_iff, Bool.not_eq_false', zbe, zdt, zdf, zb2_p, zbp_0, zbp_1, zbp_inj, zbp_01, Bool.true_eq_false, Bool.false_eq_true, true_and, and_true, Decidable.not_not, Classical.not_not, implies_true, List.nil_append, List.cons_append, List.append_assoc, Option.some.injEq, Sum.inl.injEq, zSw_c, zSw_n]); (try simp only [zit_e, Bool.and_eq_true, Bool.or_eq_true, Bool.not_eq_true', Bool.and_eq_false_iff, Bool.or_eq_false_iff, Bool.not_eq_false', zbe, zdt, zdf, zb2_p, zbp_0, zbp_1, zbp_inj, zbp_01, Bool.true_eq_false, Bool.false_eq_true, true_and, and_true, Decidable.not_not, Classical.not_not, implies_true, List.nil_append, List.cons_append, List.append_assoc, Option.some.injEq, Sum.inl.injEq, zSw_c, zSw_n, zc_355, f_M_isAlike, g_M_isAlike]); (try simp only [zi_cs, zi_c0, zii_cs, zii_c0, zl_cs, zl_c0, zll_cs, zll_c0, zr_cs, zr_c0, zrr_cs, zrr_c0, zxs_cs, zxs_c0, zxx_cs, zxx_c0, zfree_c0, zfree_c1, zfree_cs, zfree_cz, zlong_i, zlong_r, zlong_x, zset_0, zset_s, true_and, and_true, Option.some.injEq, Sum.inl.injEq, Sum.inr.injEq, zb2_p, zbp_0, zbp_1, zbp_inj, zbp_01, Nat.zero_add, Nat.reduceAdd, implies_true, List.nil_append, List.cons_append, List.append_assoc, Int.not_lt, Int.not_le, Decidable.not_not, Int.zero_add, Int.reduceLE, Int.reduceLT, Int.reduceEq, Int.reduceNe, Int.reduceAdd, Int.reduceSub, Int.reduceMul, Int.reduceNeg, Int.reduceToNat, Nat.reduceMul, Nat.reduceLT, Nat.reduceEqDiff, and_self, ite_true, ite_false, zx1, zx2, zRecv, List.length_cons, List.length_nil, ne_eq, not_true_eq_false, not_false_eq_true, true_or, or_true, or_false, false_or, and_false, false_and, zf01, zf10, reduceCtorEq, zSw_c, zSw_n, zm_r, zit_T, zit_F, false_implies, true_implies, zc_355, f_M_isAlike, g_M_isAlike])
  rw [hl1]
  refine zif (fun c => ?_) (fun c => ?_)
  · obtain ⟨⟨e1, e2, e3, e4⟩, e5⟩ := hV1.e (k := j) (by omega) c
    refine zLoop.up V.length (fun o ρ μ2 => ∃ x4 : zV, ρ = [vr 355, vi j, vi (zbp (∀ k : Nat, k < o → k < j → ¬ alk V k j)), vi (mxR V j o), vi o] ∧ μ1 = μ2) ⟨vi 0, by rw [zbt (fun k hk => absurd hk (Nat.not_lt_zero k))]; rfl, rfl⟩ ?_
    rintro o ρ μ2 ho ⟨x4, rfl, rfl⟩
    (try simp only [zit_e, Bool.and_eq_true, Bool.or_eq_true, Bool.not_eq_true', Bool.and_eq_false_iff, Bool.or_eq_false_iff, Bool.not_eq_false', zbe, zdt, zdf, zb2_p, zbp_0, zbp_1, zbp_inj, zbp_01, Bool.true_eq_false, Bool.false_eq_true, true_and, and_true, Decidable.not_not, Classical.not_not, implies_true, List.nil_append, List.cons_append, List.append_assoc, Option.some.injEq, Sum.inl.injEq, zSw_c, zSw_n]); (try simp only [zit_e, Bool.and_eq_true, Bool.or_eq_true, Bool.not_eq_true', Bool.and_eq_false_iff, Bool.or_eq_false_iff, Bool.not_eq_false', zbe, zdt, zdf, zb2_p, zbp_0, zbp_1, zbp_inj, zbp_01, Bool.true_eq_false, Bool.false_eq_true, true_and, and_true, Decidable.not_not, Classical.not_not, implies_true, List.nil_append, List.cons_append, List.append_assoc, Option.some.injEq, Sum.inl.injEq, zSw_c, zSw_n, zc_355, f_M_isAlike, g_M_isAlike]); (try simp only [zi_cs, zi_c0, zii_cs, zii_c0, zl_cs, zl_c0, zll_cs, zll_c0, zr_cs, zr_c0, zrr_cs, zrr_c0, zxs_cs, zxs_c0, zxx_cs, zxx_c0, zfree_c0, zfree_c1, zfree_cs, zfree_cz, zlong_i, zlong_r, zlong_x, zset_0, zset_s, true_and, and_true, Option.some.injEq, Sum.inl.injEq, Sum.inr.injEq, zb2_p, zbp_0, zbp_1, zbp_inj, zbp_01, Nat.zero_add, Nat.reduceAdd, implies_true, List.nil_append, List.cons_append, List.append_assoc, Int.not_lt, Int.not_le, Decidable.not_not, Int.zero_add, Int.reduceLE, Int.reduceLT, Int.reduceEq, Int.reduceNe, Int.reduceAdd, Int.reduceSub, Int.reduceMul, Int.reduceNeg, Int.reduceToNat, Nat.reduceMul, Nat.reduceLT, Nat.reduceEqDiff, and_self, ite_true, ite_false, zx1, zx2, zRecv, List.length_cons, List.length_nil, ne_eq, not_true_eq_false, not_false_eq_true, true_or, or_true, or_false, false_or, and_false, false_and, zf01, zf10, reduceCtorEq, zSw_c, zSw_n, zm_r, zit_T, zit_F, false_implies, true_implies, zc_355, f_M_isAlike, g_M_isAlike])
    rw [hl1]
    refine zif (fun c1 => ?_) (fun c1 => ?_)
    · obtain ⟨⟨f1, f2, f3, f4⟩, f5⟩ := hV1.e (k := o) (by omega) c1
      have f6 := f5.2.2.2.1
      have em : mxR V j (o + 1) = zit (alk V o j) (max (mxR V j o) (dfV V o).2.2.1) (mxR V j o) := rfl
      rw [e1, e2, f1, f2, f3]
      refine ⟨by omega, ?_⟩
      refine zif (fun c2 => ?_) (fun c2 => ?_)
      · have hn : ¬ alk V o j := fun q => c2 ⟨q.1.symm, q.2.symm⟩
        rw [zit_f hn] at em
        refine ⟨zI_s (by omega) (by omega), V.length - (o + 1), by omega, o + 1, rfl, by omega, vi 0, ?_⟩
        have : (∀ k : Nat, k < o → k < j → ¬ alk V k j) = (∀ k : Nat, k < o + 1 → k < j → ¬ alk V k j) := propext ⟨fun q k k1 k2 => by
          by_cases ek : k = o
          · subst ek
            exact hn
          · exact q k (by omega) k2, fun q k k1 k2 => q k (by omega) k2⟩
        rw [em, this]
        rfl
      · have hy : alk V o j := by
          have := Classical.not_not.mp c2
          exact ⟨this.1.symm, this.2.symm⟩
        rw [zit_t hy] at em
        refine ⟨⟨by ((repeat' apply And.intro) <;> (first | omega | (simp only [zI_e]; omega) | exact True.intro | (intro _; (repeat' apply And.intro) <;> (first | omega | (simp only [zI_e]; omega) | exact True.intro)))), by ((repeat' apply And.intro) <;> (first | omega | (simp only [zI_e]; omega) | exact True.intro | (intro _; (repeat' apply And.intro) <;> (first | omega | (simp only [zI_e]; omega) | exact True.intro))))⟩, zI_s (by omega) (by omega), V.length - (o + 1), by omega, o + 1, rfl, by omega, vi 0, ?_⟩
        have : ((¬ ¬ ∀ k : Nat, k < o → k < j → ¬ alk V k j) ∧ (j : Int) ≤ (o : Int)) = (∀ k : Nat, k < o + 1 → k < j → ¬ alk V k j) := propext ⟨fun q k k1 k2 => by
          by_cases ek : k = o
          · omega
          · exact Classical.not_not.mp q.1 k (by omega) k2, fun q => ⟨fun z => z (fun k k1 k2 => q k (by omega) k2), by
          rcases Nat.lt_or_ge o j with z | z
          · exact absurd hy (q o (by omega) z)
          · omega⟩⟩
        rw [em, this, show zit (mxR V j o < (dfV V o).2.2.1) (dfV V o).2.2.1 (mxR V j o) = max (mxR V j o) (dfV V o).2.2.1 by unfold zit; split <;> omega]
        rfl
    · have eo : o = V.length := by omega
      subst eo
      have hls := lgS_s hL
      have hex : (∀ k : Nat, k < V.length → k < j → ¬ alk V k j) ↔ ¬ ∃ k : Nat, k < j ∧ alk V k j := ⟨fun q ⟨k, k1, k2⟩ => q k (by omega) k1 k2, fun q k _ k2 k3 => q ⟨k, k2, k3⟩⟩
      refine zif (fun c2 => ?_) (fun c2 => ?_)
      · rw [zbp_0, hex] at c2
        exact ⟨zI_s (by omega) (by omega), V.length - (j + 1), by omega, j + 1, rfl, by omega, _, _, _, rfl, hF, hf, L, hls.1 (Classical.not_not.mp c2), h5, hA⟩
      rw [zbp_0, hex] at c2
      have hls := hls.2 (fun q => c2 (fun z => z q))
      rw [e1, e2]
      obtain ⟨o1, o2, o3, o4, o5⟩ := e5
      refine ⟨by ((repeat' apply And.intro) <;> (first | omega | (simp only [zI_e]; omega) | exact True.intro | (intro _; (repeat' apply And.intro) <;> (first | omega | (simp only [zI_e]; omega) | exact True.intro)))), ?_⟩
      refine zCw.use (q_M_needOf (d := 49) (by decide) hC1 o1 o2) (by omega) (fun q μ2 e => ?_)
      obtain ⟨rfl, hF2⟩ := e
      have hnd := ndA_in (Z := Z) (F := F) (A := A) (w := w) (v := (dfV V j).1) (h := (dfV V j).2.1) (r := mxR V j V.length)
      generalize hn : ndA Z F A w (dfV V j).1 (dfV V j).2.1 (mxR V j V.length) = n at *
      have hF3 : zfc [355, 367, 371, 372, 373, 374] μ μ2 := (hF.tr hF2.2).mo (by simp)
      have hf3 : fr34 μ μ2 := fun i p1 p2 p3 p4 p5 => (hF2.1 i p1 p2 p3 p4).trans (hf i p1 p2 p3 p4 p5)
      have k34 : μ2 355 34 = (L.length : Int) := by rw [hF2.1 34 (by decide) (by decide) (by decide) (by decide)]; exact h5
      have kA : LnM L μ2 := by
        unfold LnM
        rw [hF2.2 371 (by decide), hF2.2 372 (by decide), hF2.2 373 (by decide), hF2.2 374 (by decide)]
        exact hA
      refine ⟨_, rfl, ?_⟩
      refine zif (fun c3 => ?_) (fun c3 => ?_)
      · have e9 := lgS_n (hls.1 c3) (V.length - (j + 1))
        rw [show j + 1 + (V.length - (j + 1)) = V.length by omega] at e9
        exact ⟨hF3, hf3, fun L2 q => by rw [e9] at q; cases q⟩
      have hls := hls.2 c3
      refine zif (fun c4 => ?_) (fun c4 => ?_)
      · exact ⟨zI_s (by omega) (by omega), V.length - (j + 1), by omega, j + 1, rfl, by omega, _, _, _, rfl, hF3, hf3, L, hls.1 c4, k34, kA⟩
      have hl2 := hls.2 c4
      rw [hF2.2 357 (by decide), e1, e2, k34]
      refine ⟨by omega, by omega, by ((repeat' apply And.intro) <;> (first | omega | (simp only [zI_e]; omega) | exact True.intro | (intro _; (repeat' apply And.intro) <;> (first | omega | (simp only [zI_e]; omega) | exact True.intro)))), by omega, by omega, by ((repeat' apply And.intro) <;> (first | omega | (simp only [zI_e]; omega) | exact True.intro | (intro _; (repeat' apply And.intro) <;> (first | omega | (simp only [zI_e]; omega) | exact True.intro)))), by omega, by omega, by omega, by omega, zI_s (by omega) (by omega), zI_s (by omega) (by omega), V.length - (j + 1), by omega, j + 1, rfl, by omega, _, _, _, rfl, ((((hF3.zm (by decide)).zm (by decide)).zm (by decide)).zm (by decide)).zm (by decide), fun i p1 p2 p3 p4 p5 => ?_, _, hl2, ?_, ?_⟩
      · rw [zm_o (Or.inr p5), zm_off _ (by decide), zm_off _ (by decide), zm_off _ (by decide), zm_off _ (by decide)]
        exact hf3 i p1 p2 p3 p4 p5
      · rw [List.length_append, List.length_singleton]
        rfl
      · intro i hi
        rw [List.length_append, List.length_singleton] at hi
        rw [dfV_app (by omega)]
        by_cases ei : i = L.length
        · subst ei
          rw [if_neg (by omega), if_pos rfl, zm_o (by omega), zm_o (by omega), zm_o (by omega), zm_o (by omega), zm_s, zm_o (by omega), zm_o (by omega), zm_o (by omega), zm_s, zm_o (by omega), zm_o (by omega), zm_s, zm_o (by omega), zm_s]
          exact ⟨⟨rfl, rfl⟩, rfl, rfl⟩
        · rw [if_pos (by omega)]
          (repeat rw [zm_o (by omega)])
          exact kA i (by omega)
  · have ej : j = V.length := by omega
    subst ej
    exact ⟨hF, hf, fun q => (by rw [hL] at q; cases q), fun L2 q => (by rw [hL] at q; cases q; exact ⟨h5, hA⟩)⟩

