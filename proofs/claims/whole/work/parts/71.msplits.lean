/-! the reference splits a text -/
def sgn (b : Int) : Int := if b < 128 then b else b - 256
theorem fp_12_16 : zFp 12 16 0 := ⟨_, rfl, rfl, rfl, by decide⟩
theorem m_M_isSmall : Cond.static y_M_isSmall.1 ∈ zTb ∧ Cond.initialized y_M_isSmall.1.cls ∈ zTb ∧ Cond.code y_M_isSmall.1 y_M_isSmall.2.1 y_M_isSmall.2.2.1 y_M_isSmall.2.2.2 ∈ zTb ∧ (y_M_isSmall.1.cls ≠ "java/lang/invoke/MethodHandle" ∧ y_M_isSmall.1.cls ≠ "java/lang/invoke/VarHandle" ∧ (parseMethodDescriptor y_M_isSmall.1.desc).map (fun d => d.parameters.length) = some 1) ∧ y_M_isSmall.2.2.1 ≤ 20 :=
  ⟨(zTb_in 1701 (by decide +kernel) (by decide +kernel)), (zTb_in 151 (by decide +kernel) (by decide +kernel)), (zTb_in 1702 (by decide +kernel) (by decide +kernel)), by decide +kernel, by decide +kernel⟩
theorem ls_M_190 : zLs "DebtDoorsModel" 190 y_M_isSmall 1 := Or.inl ⟨(zTb_in 1700 (by decide +kernel) (by decide +kernel)), m_M_isSmall⟩
theorem m_M_isDigit : Cond.static y_M_isDigit.1 ∈ zTb ∧ Cond.initialized y_M_isDigit.1.cls ∈ zTb ∧ Cond.code y_M_isDigit.1 y_M_isDigit.2.1 y_M_isDigit.2.2.1 y_M_isDigit.2.2.2 ∈ zTb ∧ (y_M_isDigit.1.cls ≠ "java/lang/invoke/MethodHandle" ∧ y_M_isDigit.1.cls ≠ "java/lang/invoke/VarHandle" ∧ (parseMethodDescriptor y_M_isDigit.1.desc).map (fun d => d.parameters.length) = some 1) ∧ y_M_isDigit.2.2.1 ≤ 20 :=
  ⟨(zTb_in 1704 (by decide +kernel) (by decide +kernel)), (zTb_in 151 (by decide +kernel) (by decide +kernel)), (zTb_in 1705 (by decide +kernel) (by decide +kernel)), by decide +kernel, by decide +kernel⟩
theorem ls_M_193 : zLs "DebtDoorsModel" 193 y_M_isDigit 1 := Or.inl ⟨(zTb_in 1703 (by decide +kernel) (by decide +kernel)), m_M_isDigit⟩
theorem m_M_wordOf : Cond.instanceMethod y_M_wordOf.1 ∈ zTb ∧ Cond.selects y_M_wordOf.1.cls y_M_wordOf.1 y_M_wordOf.1 ∈ zTb ∧ Cond.initialized y_M_wordOf.1.cls ∈ zTb ∧ Cond.code y_M_wordOf.1 y_M_wordOf.2.1 y_M_wordOf.2.2.1 y_M_wordOf.2.2.2 ∈ zTb ∧ (y_M_wordOf.1.cls ≠ "java/lang/invoke/MethodHandle" ∧ y_M_wordOf.1.cls ≠ "java/lang/invoke/VarHandle" ∧ (parseMethodDescriptor y_M_wordOf.1.desc).map (fun d => d.parameters.length) = some 2) ∧ y_M_wordOf.2.2.1 ≤ 20 :=
  ⟨(zTb_in 1708 (by decide +kernel) (by decide +kernel)), (List.mem_filter.mpr ⟨List.mem_append_left _ (by decide +kernel), by decide +kernel⟩), (zTb_in 151 (by decide +kernel) (by decide +kernel)), (zTb_in 1709 (by decide +kernel) (by decide +kernel)), by decide +kernel, by decide +kernel⟩
theorem lv_M_196 : zLv "DebtDoorsModel" 196 y_M_wordOf 2 12 := ⟨⟨(zTb_in 1706 (by decide +kernel) (by decide +kernel)), m_M_wordOf.1, m_M_wordOf.2.1, m_M_wordOf.2.2⟩, _, rfl, rfl⟩
theorem kc_M_199 : Cond.constant "DebtDoorsModel" 199 (Int32.ofInt 1000000) ∈ zTb := (zTb_in 1710 (by decide +kernel) (by decide +kernel))
theorem d_M_splits_0 : decode prog_14_method_40_code 0 = .ok (.aload_n 0, 1) := by decide +kernel
theorem d_M_splits_1 : decode prog_14_method_40_code 1 = .ok (.iconst 0, 1) := by decide +kernel
theorem d_M_splits_2 : decode prog_14_method_40_code 2 = .ok (.putfield 187, 3) := by decide +kernel
theorem d_M_splits_5 : decode prog_14_method_40_code 5 = .ok (.iconst 0, 1) := by decide +kernel
theorem d_M_splits_6 : decode prog_14_method_40_code 6 = .ok (.istore_n 2, 1) := by decide +kernel
theorem d_M_splits_7 : decode prog_14_method_40_code 7 = .ok (.iload_n 2, 1) := by decide +kernel
theorem d_M_splits_8 : decode prog_14_method_40_code 8 = .ok (.iload_n 1, 1) := by decide +kernel
theorem d_M_splits_9 : decode prog_14_method_40_code 9 = .ok (.if_icmp .ge 254, 3) := by decide +kernel
theorem d_M_splits_12 : decode prog_14_method_40_code 12 = .ok (.aload_n 0, 1) := by decide +kernel
theorem d_M_splits_13 : decode prog_14_method_40_code 13 = .ok (.getfield 41, 3) := by decide +kernel
theorem d_M_splits_16 : decode prog_14_method_40_code 16 = .ok (.iload_n 2, 1) := by decide +kernel
theorem d_M_splits_17 : decode prog_14_method_40_code 17 = .ok (.baload, 1) := by decide +kernel
theorem d_M_splits_18 : decode prog_14_method_40_code 18 = .ok (.istore_n 3, 1) := by decide +kernel
theorem d_M_splits_19 : decode prog_14_method_40_code 19 = .ok (.iload_n 3, 1) := by decide +kernel
theorem d_M_splits_20 : decode prog_14_method_40_code 20 = .ok (.bipush 32, 2) := by decide +kernel
theorem d_M_splits_22 : decode prog_14_method_40_code 22 = .ok (.if_icmp .ne 9, 3) := by decide +kernel
theorem d_M_splits_25 : decode prog_14_method_40_code 25 = .ok (.iinc 2 1, 3) := by decide +kernel
theorem d_M_splits_28 : decode prog_14_method_40_code 28 = .ok (.goto (-21), 3) := by decide +kernel
theorem d_M_splits_31 : decode prog_14_method_40_code 31 = .ok (.iload_n 2, 1) := by decide +kernel
theorem d_M_splits_32 : decode prog_14_method_40_code 32 = .ok (.iconst 1, 1) := by decide +kernel
theorem d_M_splits_33 : decode prog_14_method_40_code 33 = .ok (.iadd, 1) := by decide +kernel
theorem d_M_splits_34 : decode prog_14_method_40_code 34 = .ok (.istore 4, 2) := by decide +kernel
theorem d_M_splits_36 : decode prog_14_method_40_code 36 = .ok (.iload_n 3, 1) := by decide +kernel
theorem d_M_splits_37 : decode prog_14_method_40_code 37 = .ok (.invokestatic 190, 3) := by decide +kernel
theorem d_M_splits_40 : decode prog_14_method_40_code 40 = .ok (.ifCond .eq 28, 3) := by decide +kernel
theorem d_M_splits_43 : decode prog_14_method_40_code 43 = .ok (.iload 4, 2) := by decide +kernel
theorem d_M_splits_45 : decode prog_14_method_40_code 45 = .ok (.iload_n 1, 1) := by decide +kernel
theorem d_M_splits_46 : decode prog_14_method_40_code 46 = .ok (.if_icmp .ge 22, 3) := by decide +kernel
theorem d_M_splits_49 : decode prog_14_method_40_code 49 = .ok (.aload_n 0, 1) := by decide +kernel
theorem d_M_splits_50 : decode prog_14_method_40_code 50 = .ok (.getfield 41, 3) := by decide +kernel
theorem d_M_splits_53 : decode prog_14_method_40_code 53 = .ok (.iload 4, 2) := by decide +kernel
theorem d_M_splits_55 : decode prog_14_method_40_code 55 = .ok (.baload, 1) := by decide +kernel
theorem d_M_splits_56 : decode prog_14_method_40_code 56 = .ok (.invokestatic 190, 3) := by decide +kernel
theorem d_M_splits_59 : decode prog_14_method_40_code 59 = .ok (.ifCond .eq 9, 3) := by decide +kernel
theorem d_M_splits_62 : decode prog_14_method_40_code 62 = .ok (.iinc 4 1, 3) := by decide +kernel
theorem d_M_splits_65 : decode prog_14_method_40_code 65 = .ok (.goto (-22), 3) := by decide +kernel
theorem d_M_splits_68 : decode prog_14_method_40_code 68 = .ok (.iload_n 3, 1) := by decide +kernel
theorem d_M_splits_69 : decode prog_14_method_40_code 69 = .ok (.invokestatic 193, 3) := by decide +kernel
theorem d_M_splits_72 : decode prog_14_method_40_code 72 = .ok (.ifCond .eq 28, 3) := by decide +kernel
theorem d_M_splits_75 : decode prog_14_method_40_code 75 = .ok (.iload 4, 2) := by decide +kernel
theorem d_M_splits_77 : decode prog_14_method_40_code 77 = .ok (.iload_n 1, 1) := by decide +kernel
theorem d_M_splits_78 : decode prog_14_method_40_code 78 = .ok (.if_icmp .ge 22, 3) := by decide +kernel
theorem d_M_splits_81 : decode prog_14_method_40_code 81 = .ok (.aload_n 0, 1) := by decide +kernel
theorem d_M_splits_82 : decode prog_14_method_40_code 82 = .ok (.getfield 41, 3) := by decide +kernel
theorem d_M_splits_85 : decode prog_14_method_40_code 85 = .ok (.iload 4, 2) := by decide +kernel
theorem d_M_splits_87 : decode prog_14_method_40_code 87 = .ok (.baload, 1) := by decide +kernel
theorem d_M_splits_88 : decode prog_14_method_40_code 88 = .ok (.invokestatic 193, 3) := by decide +kernel
theorem d_M_splits_91 : decode prog_14_method_40_code 91 = .ok (.ifCond .eq 9, 3) := by decide +kernel
theorem d_M_splits_94 : decode prog_14_method_40_code 94 = .ok (.iinc 4 1, 3) := by decide +kernel
theorem d_M_splits_97 : decode prog_14_method_40_code 97 = .ok (.goto (-22), 3) := by decide +kernel
theorem d_M_splits_100 : decode prog_14_method_40_code 100 = .ok (.aload_n 0, 1) := by decide +kernel
theorem d_M_splits_101 : decode prog_14_method_40_code 101 = .ok (.getfield 56, 3) := by decide +kernel
theorem d_M_splits_104 : decode prog_14_method_40_code 104 = .ok (.aload_n 0, 1) := by decide +kernel
theorem d_M_splits_105 : decode prog_14_method_40_code 105 = .ok (.getfield 187, 3) := by decide +kernel
theorem d_M_splits_108 : decode prog_14_method_40_code 108 = .ok (.iload_n 2, 1) := by decide +kernel
theorem d_M_splits_109 : decode prog_14_method_40_code 109 = .ok (.iastore, 1) := by decide +kernel
theorem d_M_splits_110 : decode prog_14_method_40_code 110 = .ok (.aload_n 0, 1) := by decide +kernel
theorem d_M_splits_111 : decode prog_14_method_40_code 111 = .ok (.getfield 53, 3) := by decide +kernel
theorem d_M_splits_114 : decode prog_14_method_40_code 114 = .ok (.aload_n 0, 1) := by decide +kernel
theorem d_M_splits_115 : decode prog_14_method_40_code 115 = .ok (.getfield 187, 3) := by decide +kernel
theorem d_M_splits_118 : decode prog_14_method_40_code 118 = .ok (.iconst 0, 1) := by decide +kernel
theorem d_M_splits_119 : decode prog_14_method_40_code 119 = .ok (.iastore, 1) := by decide +kernel
theorem d_M_splits_120 : decode prog_14_method_40_code 120 = .ok (.aload_n 0, 1) := by decide +kernel
theorem d_M_splits_121 : decode prog_14_method_40_code 121 = .ok (.getfield 50, 3) := by decide +kernel
theorem d_M_splits_124 : decode prog_14_method_40_code 124 = .ok (.aload_n 0, 1) := by decide +kernel
theorem d_M_splits_125 : decode prog_14_method_40_code 125 = .ok (.getfield 187, 3) := by decide +kernel
theorem d_M_splits_128 : decode prog_14_method_40_code 128 = .ok (.iload_n 3, 1) := by decide +kernel
theorem d_M_splits_129 : decode prog_14_method_40_code 129 = .ok (.invokestatic 190, 3) := by decide +kernel
theorem d_M_splits_132 : decode prog_14_method_40_code 132 = .ok (.ifCond .eq 13, 3) := by decide +kernel
theorem d_M_splits_135 : decode prog_14_method_40_code 135 = .ok (.aload_n 0, 1) := by decide +kernel
theorem d_M_splits_136 : decode prog_14_method_40_code 136 = .ok (.iload_n 2, 1) := by decide +kernel
theorem d_M_splits_137 : decode prog_14_method_40_code 137 = .ok (.iload 4, 2) := by decide +kernel
theorem d_M_splits_139 : decode prog_14_method_40_code 139 = .ok (.invokevirtual 196, 3) := by decide +kernel
theorem d_M_splits_142 : decode prog_14_method_40_code 142 = .ok (.goto 23, 3) := by decide +kernel
theorem d_M_splits_145 : decode prog_14_method_40_code 145 = .ok (.iload_n 3, 1) := by decide +kernel
theorem d_M_splits_146 : decode prog_14_method_40_code 146 = .ok (.invokestatic 193, 3) := by decide +kernel
theorem d_M_splits_149 : decode prog_14_method_40_code 149 = .ok (.ifCond .eq 8, 3) := by decide +kernel
theorem d_M_splits_152 : decode prog_14_method_40_code 152 = .ok (.bipush 50, 2) := by decide +kernel
theorem d_M_splits_154 : decode prog_14_method_40_code 154 = .ok (.goto 11, 3) := by decide +kernel
theorem d_M_splits_157 : decode prog_14_method_40_code 157 = .ok (.bipush 100, 2) := by decide +kernel
theorem d_M_splits_159 : decode prog_14_method_40_code 159 = .ok (.iload_n 3, 1) := by decide +kernel
theorem d_M_splits_160 : decode prog_14_method_40_code 160 = .ok (.sipush 255, 3) := by decide +kernel
theorem d_M_splits_163 : decode prog_14_method_40_code 163 = .ok (.iand, 1) := by decide +kernel
theorem d_M_splits_164 : decode prog_14_method_40_code 164 = .ok (.iadd, 1) := by decide +kernel
theorem d_M_splits_165 : decode prog_14_method_40_code 165 = .ok (.iastore, 1) := by decide +kernel
theorem d_M_splits_166 : decode prog_14_method_40_code 166 = .ok (.iload_n 2, 1) := by decide +kernel
theorem d_M_splits_167 : decode prog_14_method_40_code 167 = .ok (.istore 5, 2) := by decide +kernel
theorem d_M_splits_169 : decode prog_14_method_40_code 169 = .ok (.iload 5, 2) := by decide +kernel
theorem d_M_splits_171 : decode prog_14_method_40_code 171 = .ok (.iload 4, 2) := by decide +kernel
theorem d_M_splits_173 : decode prog_14_method_40_code 173 = .ok (.if_icmp .ge 74, 3) := by decide +kernel
theorem d_M_splits_176 : decode prog_14_method_40_code 176 = .ok (.iload_n 3, 1) := by decide +kernel
theorem d_M_splits_177 : decode prog_14_method_40_code 177 = .ok (.invokestatic 193, 3) := by decide +kernel
theorem d_M_splits_180 : decode prog_14_method_40_code 180 = .ok (.ifCond .eq 67, 3) := by decide +kernel
theorem d_M_splits_183 : decode prog_14_method_40_code 183 = .ok (.aload_n 0, 1) := by decide +kernel
theorem d_M_splits_184 : decode prog_14_method_40_code 184 = .ok (.getfield 53, 3) := by decide +kernel
theorem d_M_splits_187 : decode prog_14_method_40_code 187 = .ok (.aload_n 0, 1) := by decide +kernel
theorem d_M_splits_188 : decode prog_14_method_40_code 188 = .ok (.getfield 187, 3) := by decide +kernel
theorem d_M_splits_191 : decode prog_14_method_40_code 191 = .ok (.aload_n 0, 1) := by decide +kernel
theorem d_M_splits_192 : decode prog_14_method_40_code 192 = .ok (.getfield 53, 3) := by decide +kernel
theorem d_M_splits_195 : decode prog_14_method_40_code 195 = .ok (.aload_n 0, 1) := by decide +kernel
theorem d_M_splits_196 : decode prog_14_method_40_code 196 = .ok (.getfield 187, 3) := by decide +kernel
theorem d_M_splits_199 : decode prog_14_method_40_code 199 = .ok (.iaload, 1) := by decide +kernel
theorem d_M_splits_200 : decode prog_14_method_40_code 200 = .ok (.ldc 199, 2) := by decide +kernel
theorem d_M_splits_202 : decode prog_14_method_40_code 202 = .ok (.if_icmp .le 15, 3) := by decide +kernel
theorem d_M_splits_205 : decode prog_14_method_40_code 205 = .ok (.aload_n 0, 1) := by decide +kernel
theorem d_M_splits_206 : decode prog_14_method_40_code 206 = .ok (.getfield 53, 3) := by decide +kernel
theorem d_M_splits_209 : decode prog_14_method_40_code 209 = .ok (.aload_n 0, 1) := by decide +kernel
theorem d_M_splits_210 : decode prog_14_method_40_code 210 = .ok (.getfield 187, 3) := by decide +kernel
theorem d_M_splits_213 : decode prog_14_method_40_code 213 = .ok (.iaload, 1) := by decide +kernel
theorem d_M_splits_214 : decode prog_14_method_40_code 214 = .ok (.goto 26, 3) := by decide +kernel
theorem d_M_splits_217 : decode prog_14_method_40_code 217 = .ok (.bipush 10, 2) := by decide +kernel
theorem d_M_splits_219 : decode prog_14_method_40_code 219 = .ok (.aload_n 0, 1) := by decide +kernel
theorem d_M_splits_220 : decode prog_14_method_40_code 220 = .ok (.getfield 53, 3) := by decide +kernel
theorem d_M_splits_223 : decode prog_14_method_40_code 223 = .ok (.aload_n 0, 1) := by decide +kernel
theorem d_M_splits_224 : decode prog_14_method_40_code 224 = .ok (.getfield 187, 3) := by decide +kernel
theorem d_M_splits_227 : decode prog_14_method_40_code 227 = .ok (.iaload, 1) := by decide +kernel
theorem d_M_splits_228 : decode prog_14_method_40_code 228 = .ok (.imul, 1) := by decide +kernel
theorem d_M_splits_229 : decode prog_14_method_40_code 229 = .ok (.aload_n 0, 1) := by decide +kernel
theorem d_M_splits_230 : decode prog_14_method_40_code 230 = .ok (.getfield 41, 3) := by decide +kernel
theorem d_M_splits_233 : decode prog_14_method_40_code 233 = .ok (.iload 5, 2) := by decide +kernel
theorem d_M_splits_235 : decode prog_14_method_40_code 235 = .ok (.baload, 1) := by decide +kernel
theorem d_M_splits_236 : decode prog_14_method_40_code 236 = .ok (.iadd, 1) := by decide +kernel
theorem d_M_splits_237 : decode prog_14_method_40_code 237 = .ok (.bipush 48, 2) := by decide +kernel
theorem d_M_splits_239 : decode prog_14_method_40_code 239 = .ok (.isub, 1) := by decide +kernel
theorem d_M_splits_240 : decode prog_14_method_40_code 240 = .ok (.iastore, 1) := by decide +kernel
theorem d_M_splits_241 : decode prog_14_method_40_code 241 = .ok (.iinc 5 1, 3) := by decide +kernel
theorem d_M_splits_244 : decode prog_14_method_40_code 244 = .ok (.goto (-75), 3) := by decide +kernel
theorem d_M_splits_247 : decode prog_14_method_40_code 247 = .ok (.aload_n 0, 1) := by decide +kernel
theorem d_M_splits_248 : decode prog_14_method_40_code 248 = .ok (.dup, 1) := by decide +kernel
theorem d_M_splits_249 : decode prog_14_method_40_code 249 = .ok (.getfield 187, 3) := by decide +kernel
theorem d_M_splits_252 : decode prog_14_method_40_code 252 = .ok (.iconst 1, 1) := by decide +kernel
theorem d_M_splits_253 : decode prog_14_method_40_code 253 = .ok (.iadd, 1) := by decide +kernel
theorem d_M_splits_254 : decode prog_14_method_40_code 254 = .ok (.putfield 187, 3) := by decide +kernel
theorem d_M_splits_257 : decode prog_14_method_40_code 257 = .ok (.iload 4, 2) := by decide +kernel
theorem d_M_splits_259 : decode prog_14_method_40_code 259 = .ok (.istore_n 2, 1) := by decide +kernel
theorem d_M_splits_260 : decode prog_14_method_40_code 260 = .ok (.goto (-253), 3) := by decide +kernel
theorem d_M_splits_263 : decode prog_14_method_40_code 263 = .ok (.aload_n 0, 1) := by decide +kernel
theorem d_M_splits_264 : decode prog_14_method_40_code 264 = .ok (.getfield 56, 3) := by decide +kernel
theorem d_M_splits_267 : decode prog_14_method_40_code 267 = .ok (.aload_n 0, 1) := by decide +kernel
theorem d_M_splits_268 : decode prog_14_method_40_code 268 = .ok (.getfield 187, 3) := by decide +kernel
theorem d_M_splits_271 : decode prog_14_method_40_code 271 = .ok (.iload_n 1, 1) := by decide +kernel
theorem d_M_splits_272 : decode prog_14_method_40_code 272 = .ok (.iastore, 1) := by decide +kernel
theorem d_M_splits_273 : decode prog_14_method_40_code 273 = .ok (.aload_n 0, 1) := by decide +kernel
theorem d_M_splits_274 : decode prog_14_method_40_code 274 = .ok (.getfield 50, 3) := by decide +kernel
theorem d_M_splits_277 : decode prog_14_method_40_code 277 = .ok (.aload_n 0, 1) := by decide +kernel
theorem d_M_splits_278 : decode prog_14_method_40_code 278 = .ok (.getfield 187, 3) := by decide +kernel
theorem d_M_splits_281 : decode prog_14_method_40_code 281 = .ok (.iconst 0, 1) := by decide +kernel
theorem d_M_splits_282 : decode prog_14_method_40_code 282 = .ok (.iastore, 1) := by decide +kernel
theorem d_M_splits_283 : decode prog_14_method_40_code 283 = .ok (.aload_n 0, 1) := by decide +kernel
theorem d_M_splits_284 : decode prog_14_method_40_code 284 = .ok (.getfield 53, 3) := by decide +kernel
theorem d_M_splits_287 : decode prog_14_method_40_code 287 = .ok (.aload_n 0, 1) := by decide +kernel
theorem d_M_splits_288 : decode prog_14_method_40_code 288 = .ok (.getfield 187, 3) := by decide +kernel
theorem d_M_splits_291 : decode prog_14_method_40_code 291 = .ok (.iconst 0, 1) := by decide +kernel
theorem d_M_splits_292 : decode prog_14_method_40_code 292 = .ok (.iastore, 1) := by decide +kernel
theorem d_M_splits_293 : decode prog_14_method_40_code 293 = .ok (.return_, 1) := by decide +kernel
def w_M_splits {d : Nat} (hd : 2 ≤ d) := (show SS ("DebtDoorsModel", prog_14_method_40_code, 6) (none) d 0 0 0 0 _ from (sS (p1 := 5) (sP 16 fl_M_187 fp_12_16 nk_12_16 (rAn 0 d_M_splits_0 rfl) (xE (rI d_M_splits_1 rfl)) d_M_splits_2 rfl) (sS (p1 := 7) (sIn 2 (xE (rI d_M_splits_5 rfl)) d_M_splits_6 rfl (by decide)) (sS (p1 := 263) (sLp (ps := 7) (tt := 12) (pn := 263) (p1 := 0) (p2 := 0) (xC (rNot (rJ2 (tgt := 263) j_ge (rIn 2 d_M_splits_7 rfl) (rIn 1 d_M_splits_8 rfl) d_M_splits_9 (by decide)))) (sS (p1 := 19) (sIn 3 (xE (rBa (rFr fl_M_41 nk_12_9 (rAn 0 d_M_splits_12 rfl) d_M_splits_13) (rIn 2 d_M_splits_16 rfl) d_M_splits_17)) d_M_splits_18 rfl (by decide)) (sS (p1 := 31) (sIf (pn := 31) (tt := 25) (xC (rNot (rJ2 (tgt := 31) j_ne (rIn 3 d_M_splits_19 rfl) (rB d_M_splits_20 rfl) d_M_splits_22 (by decide)))) (sS (p1 := 7) (sGo (pn := 7) (sInc d_M_splits_25 (by decide)) d_M_splits_28 (by decide)) sCo0)) (sS (p1 := 36) (sI (xE (r2 o_add (rIn 2 d_M_splits_31 rfl) (rI d_M_splits_32 rfl) d_M_splits_33)) d_M_splits_34 (by decide)) (sS (p1 := 68) (sIf (pn := 68) (tt := 43) (xC (rNot (rJ1 (tgt := 68) k_eq (rS p_M_isSmall (Nat.le_trans (Nat.le_of_ble_eq_true rfl) hd) ls_M_190 (rAi rA0 (rIn 3 d_M_splits_36 rfl)) (by decide) d_M_splits_37) d_M_splits_40 (by decide)))) (sLp (ps := 43) (tt := 62) (pn := 68) (p1 := 0) (p2 := 0) (xC (rAnd (mm := 49) (rNot (rJ2 (tgt := 68) j_ge (rIl d_M_splits_43) (rIn 1 d_M_splits_45 rfl) d_M_splits_46 (by decide))) (rNot (rJ1 (tgt := 68) k_eq (rS p_M_isSmall (Nat.le_trans (Nat.le_of_ble_eq_true rfl) hd) ls_M_190 (rAi rA0 (rBa (rFr fl_M_41 nk_12_9 (rAn 0 d_M_splits_49 rfl) d_M_splits_50) (rIl d_M_splits_53) d_M_splits_55)) (by decide) d_M_splits_56) d_M_splits_59 (by decide))))) (sGo (pn := 43) (sInc d_M_splits_62 (by decide)) d_M_splits_65 (by decide)) s0)) (sS (p1 := 100) (sIf (pn := 100) (tt := 75) (xC (rNot (rJ1 (tgt := 100) k_eq (rS p_M_isDigit (Nat.le_trans (Nat.le_of_ble_eq_true rfl) hd) ls_M_193 (rAi rA0 (rIn 3 d_M_splits_68 rfl)) (by decide) d_M_splits_69) d_M_splits_72 (by decide)))) (sLp (ps := 75) (tt := 94) (pn := 100) (p1 := 0) (p2 := 0) (xC (rAnd (mm := 81) (rNot (rJ2 (tgt := 100) j_ge (rIl d_M_splits_75) (rIn 1 d_M_splits_77 rfl) d_M_splits_78 (by decide))) (rNot (rJ1 (tgt := 100) k_eq (rS p_M_isDigit (Nat.le_trans (Nat.le_of_ble_eq_true rfl) hd) ls_M_193 (rAi rA0 (rBa (rFr fl_M_41 nk_12_9 (rAn 0 d_M_splits_81 rfl) d_M_splits_82) (rIl d_M_splits_85) d_M_splits_87)) (by decide) d_M_splits_88) d_M_splits_91 (by decide))))) (sGo (pn := 75) (sInc d_M_splits_94 (by decide)) d_M_splits_97 (by decide)) s0)) (sS (p1 := 110) (sAs (rFr fl_M_56 nk_12_15 (rAn 0 d_M_splits_100 rfl) d_M_splits_101) (rF 16 fl_M_187 nk_12_16 (rAn 0 d_M_splits_104 rfl) d_M_splits_105 rfl) (xE (rIn 2 d_M_splits_108 rfl)) d_M_splits_109) (sS (p1 := 120) (sAs (rFr fl_M_53 nk_12_14 (rAn 0 d_M_splits_110 rfl) d_M_splits_111) (rF 16 fl_M_187 nk_12_16 (rAn 0 d_M_splits_114 rfl) d_M_splits_115 rfl) (xE (rI d_M_splits_118 rfl)) d_M_splits_119) (sS (p1 := 166) (sAs (rFr fl_M_50 nk_12_13 (rAn 0 d_M_splits_120 rfl) d_M_splits_121) (rF 16 fl_M_187 nk_12_16 (rAn 0 d_M_splits_124 rfl) d_M_splits_125 rfl) (xE (rT2 (rNot (rJ1 (tgt := 145) k_eq (rS p_M_isSmall (Nat.le_trans (Nat.le_of_ble_eq_true rfl) hd) ls_M_190 (rAi rA0 (rIn 3 d_M_splits_128 rfl)) (by decide) d_M_splits_129) d_M_splits_132 (by decide))) (rGoE (p2 := 165) (rV p_M_wordOf (Nat.le_trans (Nat.le_of_ble_eq_true rfl) hd) lv_M_196 (rAi (rAi (rAr rA0 (rAn 0 d_M_splits_135 rfl)) (rIn 2 d_M_splits_136 rfl)) (rIl d_M_splits_137)) (by decide) d_M_splits_139) d_M_splits_142 (by decide)) (rT2 (rNot (rJ1 (tgt := 157) k_eq (rS p_M_isDigit (Nat.le_trans (Nat.le_of_ble_eq_true rfl) hd) ls_M_193 (rAi rA0 (rIn 3 d_M_splits_145 rfl)) (by decide) d_M_splits_146) d_M_splits_149 (by decide))) (rGoE (p2 := 165) (rB d_M_splits_152 rfl) d_M_splits_154 (by decide)) (r2 o_add (rB d_M_splits_157 rfl) (r2 o_and (rIn 3 d_M_splits_159 rfl) (rSi d_M_splits_160 rfl) d_M_splits_163) d_M_splits_164)))) d_M_splits_165) (sS (p1 := 247) (sS (p1 := 169) (sI (xE (rIn 2 d_M_splits_166 rfl)) d_M_splits_167 (by decide)) (sLp (ps := 241) (tt := 183) (pn := 247) (p1 := 0) (p2 := 0) (xC (rAnd (mm := 176) (rNot (rJ2 (tgt := 247) j_ge (rIl d_M_splits_169) (rIl d_M_splits_171) d_M_splits_173 (by decide))) (rNot (rJ1 (tgt := 247) k_eq (rS p_M_isDigit (Nat.le_trans (Nat.le_of_ble_eq_true rfl) hd) ls_M_193 (rAi rA0 (rIn 3 d_M_splits_176 rfl)) (by decide) d_M_splits_177) d_M_splits_180 (by decide))))) (sAs (rFr fl_M_53 nk_12_14 (rAn 0 d_M_splits_183 rfl) d_M_splits_184) (rF 16 fl_M_187 nk_12_16 (rAn 0 d_M_splits_187 rfl) d_M_splits_188 rfl) (xE (rT2 (rNot (rJ2 (tgt := 217) j_le (rIa (rFr fl_M_53 nk_12_14 (rAn 0 d_M_splits_191 rfl) d_M_splits_192) (rF 16 fl_M_187 nk_12_16 (rAn 0 d_M_splits_195 rfl) d_M_splits_196 rfl) d_M_splits_199) (rLd kc_M_199 d_M_splits_200 rfl) d_M_splits_202 (by decide))) (rGoE (p2 := 240) (rIa (rFr fl_M_53 nk_12_14 (rAn 0 d_M_splits_205 rfl) d_M_splits_206) (rF 16 fl_M_187 nk_12_16 (rAn 0 d_M_splits_209 rfl) d_M_splits_210 rfl) d_M_splits_213) d_M_splits_214 (by decide)) (r2 o_sub (r2 o_add (r2 o_mul (rB d_M_splits_217 rfl) (rIa (rFr fl_M_53 nk_12_14 (rAn 0 d_M_splits_219 rfl) d_M_splits_220) (rF 16 fl_M_187 nk_12_16 (rAn 0 d_M_splits_223 rfl) d_M_splits_224 rfl) d_M_splits_227) d_M_splits_228) (rBa (rFr fl_M_41 nk_12_9 (rAn 0 d_M_splits_229 rfl) d_M_splits_230) (rIl d_M_splits_233) d_M_splits_235) d_M_splits_236) (rB d_M_splits_237 rfl) d_M_splits_239))) d_M_splits_240) (sGo (pn := 169) (sInc d_M_splits_241 (by decide)) d_M_splits_244 (by decide)))) (sS (p1 := 257) (sPo 16 o_add fl_M_187 fp_12_16 nk_12_16 (rAn 0 d_M_splits_247 rfl) d_M_splits_248 d_M_splits_249 (rI d_M_splits_252 rfl) d_M_splits_253 d_M_splits_254 rfl) (sGo (pn := 7) (sIn 2 (xE (rIl d_M_splits_257)) d_M_splits_259 rfl (by decide)) d_M_splits_260 (by decide)))))))))))) s0) (sS (p1 := 273) (sAs (rFr fl_M_56 nk_12_15 (rAn 0 d_M_splits_263 rfl) d_M_splits_264) (rF 16 fl_M_187 nk_12_16 (rAn 0 d_M_splits_267 rfl) d_M_splits_268 rfl) (xE (rIn 1 d_M_splits_271 rfl)) d_M_splits_272) (sS (p1 := 283) (sAs (rFr fl_M_50 nk_12_13 (rAn 0 d_M_splits_273 rfl) d_M_splits_274) (rF 16 fl_M_187 nk_12_16 (rAn 0 d_M_splits_277 rfl) d_M_splits_278 rfl) (xE (rI d_M_splits_281 rfl)) d_M_splits_282) (sS (p1 := 293) (sAs (rFr fl_M_53 nk_12_14 (rAn 0 d_M_splits_283 rfl) d_M_splits_284) (rF 16 fl_M_187 nk_12_16 (rAn 0 d_M_splits_287 rfl) d_M_splits_288 rfl) (xE (rI d_M_splits_291 rfl)) d_M_splits_292) (sRv d_M_splits_293 rfl))))))))
theorem zand_sgn {b : Int} (h : 0 ≤ b ∧ b ≤ 255) : zand (sgn b) 255 = b := by
  have key : (List.range 256).all (fun m => zand (sgn (m : Int)) 255 == (m : Int)) = true := by decide +kernel
  have := List.all_eq_true.mp key b.toNat (List.mem_range.mpr (by omega))
  rw [beq_iff_eq] at this
  rwa [show ((b.toNat : Nat) : Int) = b by omega] at this
set_option maxRecDepth 20000 in
theorem q_M_splits {d : Nat} (hd : 4 ≤ d) {μ : zMem} {B : Int → Int} {n : Nat} (hB : okB B n) (hT : ∀ i : Nat, i < n → μ 362 i = sgn (B i)) (hw : ∀ i : Int, 0 ≤ i → i < 147 → μ 361 i = wTab i) : zSp d 0 0 y_M_splits zT0 [vr 355, vi n] μ zT0 (fun r μ' => r = none ∧ (∃ N : Nat, TKs (cT B n, vT B n, fun u => (ps B n u : Int), N) μ' ∧ okK (cT B n, vT B n, fun u => (ps B n u : Int), N) ∧ (∀ u, u < N → ps B n u < n) ∧ ps B n N = n) ∧ (∀ j : Int, j ≠ 16 → μ' 355 j = μ 355 j) ∧ zfc [355, 364, 365, 366] μ μ') := by
  have hB1 := hB.1
  refine zSp.ss [vr 355, vi n, vx 0, vx 0, vx 0, vx 0] rfl (w_M_splits (Nat.le_trans (by decide) hd)) rfl rfl ?_
  (try simp only [zit_e, Bool.and_eq_true, Bool.or_eq_true, Bool.not_eq_true', Bool.and_eq_false_iff, Bool.or_eq_false_iff, Bool.not_eq_false', zbe, zdt, zdf, zb2_p, zbp_0, zbp_1, zbp_inj, zbp_01, Bool.true_eq_false, Bool.false_eq_true, true_and, and_true, Decidable.not_not, Classical.not_not, implies_true, List.nil_append, List.cons_append, List.append_assoc, Option.some.injEq, Sum.inl.injEq, zSw_c, zSw_n]); (try simp only [zit_e, Bool.and_eq_true, Bool.or_eq_true, Bool.not_eq_true', Bool.and_eq_false_iff, Bool.or_eq_false_iff, Bool.not_eq_false', zbe, zdt, zdf, zb2_p, zbp_0, zbp_1, zbp_inj, zbp_01, Bool.true_eq_false, Bool.false_eq_true, true_and, and_true, Decidable.not_not, Classical.not_not, implies_true, List.nil_append, List.cons_append, List.append_assoc, Option.some.injEq, Sum.inl.injEq, zSw_c, zSw_n, zc_355, f_M_isSmall, g_M_isSmall, f_M_isDigit, g_M_isDigit, f_M_wordOf, g_M_wordOf]); (try simp only [zi_cs, zi_c0, zii_cs, zii_c0, zl_cs, zl_c0, zll_cs, zll_c0, zr_cs, zr_c0, zrr_cs, zrr_c0, zxs_cs, zxs_c0, zxx_cs, zxx_c0, zfree_c0, zfree_c1, zfree_cs, zfree_cz, zlong_i, zlong_r, zlong_x, zset_0, zset_s, true_and, and_true, Option.some.injEq, Sum.inl.injEq, Sum.inr.injEq, zb2_p, zbp_0, zbp_1, zbp_inj, zbp_01, Nat.zero_add, Nat.reduceAdd, implies_true, List.nil_append, List.cons_append, List.append_assoc, Int.not_lt, Int.not_le, Decidable.not_not, Int.zero_add, Int.reduceLE, Int.reduceLT, Int.reduceEq, Int.reduceNe, Int.reduceAdd, Int.reduceSub, Int.reduceMul, Int.reduceNeg, Int.reduceToNat, Nat.reduceMul, Nat.reduceLT, Nat.reduceEqDiff, and_self, ite_true, ite_false, zx1, zx2, zRecv, List.length_cons, List.length_nil, ne_eq, not_true_eq_false, not_false_eq_true, true_or, or_true, or_false, false_or, and_false, false_and, zf01, zf10, reduceCtorEq, zSw_c, zSw_n, zm_r, zit_T, zit_F, false_implies, true_implies, zc_355, f_M_isSmall, g_M_isSmall, f_M_isDigit, g_M_isDigit, f_M_wordOf, g_M_wordOf])
  refine zLoop.mk (fun m ρ μ1 => ∃ (T k : Nat) (x3 x4 x5 : zV), ρ = [vr 355, vi n, vi k, x3, x4, x5] ∧ m = n - k ∧ (zlong (some x3) = false ∧ zlong (some x4) = false ∧ zlong (some x5) = false) ∧ μ1 355 16 = (T : Int) ∧ k ≤ n ∧ T ≤ k ∧ onE isB B n k = ps B n T ∧ (∀ u : Nat, u < T → ps B n u < n ∧ μ1 364 u = cT B n u ∧ μ1 365 u = vT B n u ∧ μ1 366 u = (ps B n u : Int)) ∧ (∀ j : Int, j ≠ 16 → μ1 355 j = μ 355 j) ∧ zfc [355, 364, 365, 366] μ μ1) n ⟨0, 0, vx 0, vx 0, vx 0, rfl, rfl, ⟨rfl, rfl, rfl⟩, by rw [zm_s]; rfl, Nat.zero_le _, Nat.le_refl _, rfl, fun u hu => absurd hu (Nat.not_lt_zero u), fun j hj => zm_j hj, zfc.rf.zm (by decide)⟩ ?_
  rintro m ρ μ1 ⟨T, k, x3, x4, x5, rfl, rfl, ⟨l3, l4, l5⟩, h16, hk, hTk, hps, hA, h55, hF⟩
  have k362 : μ1 362 = μ 362 := hF 362 (by decide)
  have k361 : μ1 361 = μ 361 := hF 361 (by decide)
  (try simp only [zit_e, Bool.and_eq_true, Bool.or_eq_true, Bool.not_eq_true', Bool.and_eq_false_iff, Bool.or_eq_false_iff, Bool.not_eq_false', zbe, zdt, zdf, zb2_p, zbp_0, zbp_1, zbp_inj, zbp_01, Bool.true_eq_false, Bool.false_eq_true, true_and, and_true, Decidable.not_not, Classical.not_not, implies_true, List.nil_append, List.cons_append, List.append_assoc, Option.some.injEq, Sum.inl.injEq, zSw_c, zSw_n]); (try simp only [zit_e, Bool.and_eq_true, Bool.or_eq_true, Bool.not_eq_true', Bool.and_eq_false_iff, Bool.or_eq_false_iff, Bool.not_eq_false', zbe, zdt, zdf, zb2_p, zbp_0, zbp_1, zbp_inj, zbp_01, Bool.true_eq_false, Bool.false_eq_true, true_and, and_true, Decidable.not_not, Classical.not_not, implies_true, List.nil_append, List.cons_append, List.append_assoc, Option.some.injEq, Sum.inl.injEq, zSw_c, zSw_n, zc_355, f_M_isSmall, g_M_isSmall, f_M_isDigit, g_M_isDigit, f_M_wordOf, g_M_wordOf]); (try simp only [zi_cs, zi_c0, zii_cs, zii_c0, zl_cs, zl_c0, zll_cs, zll_c0, zr_cs, zr_c0, zrr_cs, zrr_c0, zxs_cs, zxs_c0, zxx_cs, zxx_c0, zfree_c0, zfree_c1, zfree_cs, zfree_cz, zlong_i, zlong_r, zlong_x, zset_0, zset_s, true_and, and_true, Option.some.injEq, Sum.inl.injEq, Sum.inr.injEq, zb2_p, zbp_0, zbp_1, zbp_inj, zbp_01, Nat.zero_add, Nat.reduceAdd, implies_true, List.nil_append, List.cons_append, List.append_assoc, Int.not_lt, Int.not_le, Decidable.not_not, Int.zero_add, Int.reduceLE, Int.reduceLT, Int.reduceEq, Int.reduceNe, Int.reduceAdd, Int.reduceSub, Int.reduceMul, Int.reduceNeg, Int.reduceToNat, Nat.reduceMul, Nat.reduceLT, Nat.reduceEqDiff, and_self, ite_true, ite_false, zx1, zx2, zRecv, List.length_cons, List.length_nil, ne_eq, not_true_eq_false, not_false_eq_true, true_or, or_true, or_false, false_or, and_false, false_and, zf01, zf10, reduceCtorEq, zSw_c, zSw_n, zm_r, zit_T, zit_F, false_implies, true_implies, zc_355, f_M_isSmall, g_M_isSmall, f_M_isDigit, g_M_isDigit, f_M_wordOf, g_M_wordOf])
  rw [k362]
  refine zif (fun c => ?_) (fun c => ?_)
  · have hkn : k < n := by omega
    have hb := hB.2 k hkn
    have hs : μ 362 (k : Int) = sgn (B k) := hT k hkn
    rw [hs]
    refine ⟨by omega, ?_⟩
    refine zif (fun c2 => ?_) (fun c2 => ?_)
    · have hb32 : isB (B k) = true := by
        rw [isB_e]
        unfold sgn at c2
        split at c2 <;> omega
      exact ⟨zI_s (by omega) (by omega), _, (show n - (k + 1) < n - k by omega), T, k + 1, vi (sgn (B k)), x4, x5, rfl, rfl, ⟨rfl, l4, l5⟩, h16, by omega, by omega, by rw [← onE_t hkn hb32]; exact hps, hA, h55, hF⟩
    refine ⟨zI_s (by omega) (by omega), ?_⟩
    have hB32 : ¬ isB (B k) = true := by
      rw [isB_e]
      unfold sgn at c2
      split at c2 <;> omega
    rw [onE_f (fun q => hB32 q.2)] at hps
    have hti := tE_in (B := B) hkn
    have hcT : cT B n T = tC B n k := by
      unfold cT
      rw [← hps, if_pos hkn]
    have hvT : vT B n T = tV B n k := by
      unfold vT
      rw [← hps, if_pos hkn]
    have hps1 : onE isB B n (tE B n k) = ps B n (T + 1) := by
      rw [ps, ← hps, if_pos hkn]
    have hsL : isL (B k) = true ↔ (97 ≤ sgn (B k) ∧ sgn (B k) ≤ 122) := by
      rw [isL_e]
      unfold sgn
      split <;> omega
    have hsD : isD (B k) = true ↔ (48 ≤ sgn (B k) ∧ sgn (B k) ≤ 57) := by
      rw [isD_e]
      unfold sgn
      split <;> omega
    have hza := zand_sgn hb
    have hcode : zit (97 ≤ sgn (B k) ∧ sgn (B k) ≤ 122) (wcode (bsL (μ 362) (k : Int).toNat ((tE B n k : Nat) : Int).toNat)) (zit (48 ≤ sgn (B k) ∧ sgn (B k) ≤ 57) 50 (100 + B k)) = tC B n k := by
      unfold tC
      by_cases hL : isL (B k) = true
      · rw [zit_t (hsL.mp hL), if_pos hL, Int.toNat_natCast, Int.toNat_natCast]
        congr 1
        unfold bsL
        refine tL_congr (fun i h0 h1 => ?_)
        have hp : isL (B ((k + i.toNat : Nat) : Int)) = true := by
          by_cases e0 : i.toNat = 0
          · rw [e0]
            exact hL
          · have := onE_le (p := isL) (B := B) (n := n) (k := k + 1)
            refine this.2.2 (k + i.toNat) (by omega) ?_
            have e1 : tE B n k = onE isL B n (k + 1) := by
              unfold tE
              rw [if_pos hL]
            omega
        have e2 := hT (k + i.toNat) (by omega)
        rw [show ((k + i.toNat : Nat) : Int) = (k : Int) + i by omega] at e2 hp
        rw [e2]
        rw [isL_e] at hp
        unfold sgn
        rw [if_pos (by omega)]
      · rw [zit_f (fun q => hL (hsL.mpr q)), if_neg hL]
        by_cases hD : isD (B k) = true
        · rw [zit_t (hsD.mp hD), if_pos hD]
        · rw [zit_f (fun q => hD (hsD.mpr q)), if_neg hD]
    generalize sgn (B k) = s at *
    by_cases hL : isL (B k) = true
    · have hD : ¬ isD (B k) = true := fun q => by
        rw [isD_L q] at hL
        cases hL
      rw [if_pos (hsL.mp hL)]
      refine zLoop.up (n - (k + 1)) (fun j ρ μ2 => ρ = [vr 355, vi n, vi k, vi s, vi ((k + 1 + j : Nat) : Int), x5] ∧ μ1 = μ2 ∧ onE isL B n (k + 1) = onE isL B n (k + 1 + j)) ⟨rfl, rfl, rfl⟩ ?_
      rintro j ρ μ2 hj ⟨rfl, rfl, he⟩
      (try simp only [zit_e, Bool.and_eq_true, Bool.or_eq_true, Bool.not_eq_true', Bool.and_eq_false_iff, Bool.or_eq_false_iff, Bool.not_eq_false', zbe, zdt, zdf, zb2_p, zbp_0, zbp_1, zbp_inj, zbp_01, Bool.true_eq_false, Bool.false_eq_true, true_and, and_true, Decidable.not_not, Classical.not_not, implies_true, List.nil_append, List.cons_append, List.append_assoc, Option.some.injEq, Sum.inl.injEq, zSw_c, zSw_n]); (try simp only [zit_e, Bool.and_eq_true, Bool.or_eq_true, Bool.not_eq_true', Bool.and_eq_false_iff, Bool.or_eq_false_iff, Bool.not_eq_false', zbe, zdt, zdf, zb2_p, zbp_0, zbp_1, zbp_inj, zbp_01, Bool.true_eq_false, Bool.false_eq_true, true_and, and_true, Decidable.not_not, Classical.not_not, implies_true, List.nil_append, List.cons_append, List.append_assoc, Option.some.injEq, Sum.inl.injEq, zSw_c, zSw_n, zc_355, f_M_isSmall, g_M_isSmall, f_M_isDigit, g_M_isDigit, f_M_wordOf, g_M_wordOf]); (try simp only [zi_cs, zi_c0, zii_cs, zii_c0, zl_cs, zl_c0, zll_cs, zll_c0, zr_cs, zr_c0, zrr_cs, zrr_c0, zxs_cs, zxs_c0, zxx_cs, zxx_c0, zfree_c0, zfree_c1, zfree_cs, zfree_cz, zlong_i, zlong_r, zlong_x, zset_0, zset_s, true_and, and_true, Option.some.injEq, Sum.inl.injEq, Sum.inr.injEq, zb2_p, zbp_0, zbp_1, zbp_inj, zbp_01, Nat.zero_add, Nat.reduceAdd, implies_true, List.nil_append, List.cons_append, List.append_assoc, Int.not_lt, Int.not_le, Decidable.not_not, Int.zero_add, Int.reduceLE, Int.reduceLT, Int.reduceEq, Int.reduceNe, Int.reduceAdd, Int.reduceSub, Int.reduceMul, Int.reduceNeg, Int.reduceToNat, Nat.reduceMul, Nat.reduceLT, Nat.reduceEqDiff, and_self, ite_true, ite_false, zx1, zx2, zRecv, List.length_cons, List.length_nil, ne_eq, not_true_eq_false, not_false_eq_true, true_or, or_true, or_false, false_or, and_false, false_and, zf01, zf10, reduceCtorEq, zSw_c, zSw_n, zm_r, zit_T, zit_F, false_implies, true_implies, zc_355, f_M_isSmall, g_M_isSmall, f_M_isDigit, g_M_isDigit, f_M_wordOf, g_M_wordOf])
      rw [k362, k361]
      refine ⟨fun q => by omega, ?_⟩
      refine zif (fun c3 => ?_) (fun c3 => ?_)
      · refine ⟨zI_s (by omega) (by omega), znx (by omega) ⟨?_, he.trans ?_⟩⟩
        · rw [show k + 1 + (j + 1) = k + 1 + j + 1 by omega, Int.natCast_add (k + 1 + j) 1]
          rfl
        · have hlt : k + 1 + j < n := by omega
          have hs2 : μ 362 ((k + 1 + j : Nat) : Int) = sgn (B ((k + 1 + j : Nat) : Int)) := hT _ hlt
          have hb2 := hB.2 _ hlt
          rw [hs2] at c3
          refine onE_t hlt ?_
          rw [isL_e]
          unfold sgn at c3
          split at c3 <;> omega
      have ee : tE B n k = k + 1 + j := by
        unfold tE
        rw [if_pos hL]
        refine he.trans (onE_f (fun q => c3 ⟨by omega, ?_⟩))
        rw [hT _ q.1]
        have := q.2
        rw [isL_e] at this
        unfold sgn
        split <;> omega
      rw [if_neg (fun q => hD (hsD.mpr q)), ← ee]
      clear he ee hj c3 j
      rw [h16]
      refine ⟨by omega, by omega, by omega, by omega, by omega, by omega, ⟨fun _ => ⟨by omega, hw⟩, fun _ _ => by rw [hza]; ((try simp only [zI_e]); (first | done | omega | skip))⟩, ?_⟩
      rw [zm_off 362 (by decide), zm_off 362 (by decide), k362, hza, hcode, ← hcT]
      refine zLoop.up (tE B n k - k) (fun j ρ μ3 => ρ = [vr 355, vi n, vi k, vi s, vi ((tE B n k : Nat) : Int), vi ((k + j : Nat) : Int)] ∧ (isD (B k) = true ∨ j = 0) ∧ μ3 355 = μ1 355 ∧ (∀ y : Int, μ3 364 y = zit (y = T) (cT B n T) (μ1 364 y)) ∧ (∀ y : Int, μ3 365 y = zit (y = T) (dV B k j) (μ1 365 y)) ∧ (∀ y : Int, μ3 366 y = zit (y = T) k (μ1 366 y)) ∧ zfc [355, 364, 365, 366] μ μ3) ⟨rfl, Or.inr rfl, ?_, fun y => ?_, fun y => ?_, fun y => ?_, ((hF.zm (by decide)).zm (by decide)).zm (by decide)⟩ ?_
      · rw [zm_off 355 (by decide), zm_off 355 (by decide), zm_off 355 (by decide)]
      · simp only [zm_r, zit_T, zit_F, Nat.reduceEqDiff]
      · simp only [zm_r, zit_T, zit_F, Nat.reduceEqDiff]
        rfl
      · simp only [zm_r, zit_T, zit_F, Nat.reduceEqDiff]
      rintro j ρ μ3 hj3 ⟨rfl, hdj, g55, g64, g65, g66, gF⟩
      have g362 : μ3 362 = μ 362 := gF 362 (by decide)
      (try simp only [zit_e, Bool.and_eq_true, Bool.or_eq_true, Bool.not_eq_true', Bool.and_eq_false_iff, Bool.or_eq_false_iff, Bool.not_eq_false', zbe, zdt, zdf, zb2_p, zbp_0, zbp_1, zbp_inj, zbp_01, Bool.true_eq_false, Bool.false_eq_true, true_and, and_true, Decidable.not_not, Classical.not_not, implies_true, List.nil_append, List.cons_append, List.append_assoc, Option.some.injEq, Sum.inl.injEq, zSw_c, zSw_n]); (try simp only [zit_e, Bool.and_eq_true, Bool.or_eq_true, Bool.not_eq_true', Bool.and_eq_false_iff, Bool.or_eq_false_iff, Bool.not_eq_false', zbe, zdt, zdf, zb2_p, zbp_0, zbp_1, zbp_inj, zbp_01, Bool.true_eq_false, Bool.false_eq_true, true_and, and_true, Decidable.not_not, Classical.not_not, implies_true, List.nil_append, List.cons_append, List.append_assoc, Option.some.injEq, Sum.inl.injEq, zSw_c, zSw_n, zc_355, f_M_isSmall, g_M_isSmall, f_M_isDigit, g_M_isDigit, f_M_wordOf, g_M_wordOf]); (try simp only [zi_cs, zi_c0, zii_cs, zii_c0, zl_cs, zl_c0, zll_cs, zll_c0, zr_cs, zr_c0, zrr_cs, zrr_c0, zxs_cs, zxs_c0, zxx_cs, zxx_c0, zfree_c0, zfree_c1, zfree_cs, zfree_cz, zlong_i, zlong_r, zlong_x, zset_0, zset_s, true_and, and_true, Option.some.injEq, Sum.inl.injEq, Sum.inr.injEq, zb2_p, zbp_0, zbp_1, zbp_inj, zbp_01, Nat.zero_add, Nat.reduceAdd, implies_true, List.nil_append, List.cons_append, List.append_assoc, Int.not_lt, Int.not_le, Decidable.not_not, Int.zero_add, Int.reduceLE, Int.reduceLT, Int.reduceEq, Int.reduceNe, Int.reduceAdd, Int.reduceSub, Int.reduceMul, Int.reduceNeg, Int.reduceToNat, Nat.reduceMul, Nat.reduceLT, Nat.reduceEqDiff, and_self, ite_true, ite_false, zx1, zx2, zRecv, List.length_cons, List.length_nil, ne_eq, not_true_eq_false, not_false_eq_true, true_or, or_true, or_false, false_or, and_false, false_and, zf01, zf10, reduceCtorEq, zSw_c, zSw_n, zm_r, zit_T, zit_F, false_implies, true_implies, zc_355, f_M_isSmall, g_M_isSmall, f_M_isDigit, g_M_isDigit, f_M_wordOf, g_M_wordOf])
      rw [g362, g55, h16, g65 (T : Int), zit_t rfl]
      refine zif (fun c5 => ?_) (fun c5 => ?_)
      · have hD : isD (B k) = true := hsD.mpr c5.2
        have hdig := tE_dig (n := n) hD
        have hdj0 := hdig j (by omega)
        have hdv := dV_in (B := B) (k := k) j (fun i hi => hdig i (by omega))
        have hsj : μ 362 ((k + j : Nat) : Int) = B (k + j) := by
          rw [hT _ (by omega), Int.natCast_add]
          unfold sgn
          rw [if_pos (by omega)]
        rw [hsj]
        refine ⟨by omega, by omega, ⟨⟨by omega, by omega⟩, ⟨fun _ => ⟨by omega, by omega⟩, fun _ => ⟨⟨⟨⟨by omega, by omega⟩, by ((try simp only [zI_e]); (first | done | omega | skip))⟩, ⟨by omega, by omega⟩, by ((try simp only [zI_e]); (first | done | omega | skip))⟩, by ((try simp only [zI_e]); (first | done | omega | skip))⟩⟩⟩, zI_s (by omega) (by omega), znx (by omega) ⟨?_, Or.inl hD, ?_, fun y => ?_, fun y => ?_, fun y => ?_, gF.zm (by decide)⟩⟩
        · rw [show k + (j + 1) = k + j + 1 by omega, Int.natCast_add (k + j) 1]
          rfl
        · rw [zm_off 355 (by decide)]
          exact g55
        · exact g64 y
        · by_cases ey : y = T
          · subst ey
            rw [zit_t rfl, zit_t rfl, dV]
            unfold zit
            split <;> rfl
          · rw [zit_f ey, zit_f ey, g65 y, zit_f ey]
        · exact g66 y
      have hval : dV B k j = vT B n T := by
        rw [hvT]
        unfold tV
        by_cases hD : isD (B k) = true
        · rw [if_pos hD, show j = tE B n k - k by have := hsD.mp hD; omega]
        · rw [if_neg hD]
          rcases hdj with q | q
          · exact absurd q hD
          · rw [q]
            rfl
      refine ⟨by ((try simp only [zI_e]); (first | done | omega | skip)), _, (show n - tE B n k < n - k by omega), T + 1, tE B n k, vi s, vi ((tE B n k : Nat) : Int), vi ((k + j : Nat) : Int), rfl, rfl, ⟨rfl, rfl, rfl⟩, rfl, by omega, by omega, hps1, fun u hu => ?_, fun y hy => ?_, gF.zm (by decide)⟩
      · rw [g64, g65, g66, hval]
        by_cases eu : u = T
        · subst eu
          rw [zit_t rfl, zit_t rfl, zit_t rfl, ← hps]
          exact ⟨hkn, rfl, rfl, rfl⟩
        · rw [zit_f (by omega), zit_f (by omega), zit_f (by omega)]
          exact hA u (by omega)
      · rw [zit_f hy, h55 y hy]
    rw [if_neg (fun q => hL (hsL.mpr q))]
    by_cases hD : isD (B k) = true
    · rw [if_pos (hsD.mp hD)]
      refine zLoop.up (n - (k + 1)) (fun j ρ μ2 => ρ = [vr 355, vi n, vi k, vi s, vi ((k + 1 + j : Nat) : Int), x5] ∧ μ1 = μ2 ∧ onE isD B n (k + 1) = onE isD B n (k + 1 + j)) ⟨rfl, rfl, rfl⟩ ?_
      rintro j ρ μ2 hj ⟨rfl, rfl, he⟩
      (try simp only [zit_e, Bool.and_eq_true, Bool.or_eq_true, Bool.not_eq_true', Bool.and_eq_false_iff, Bool.or_eq_false_iff, Bool.not_eq_false', zbe, zdt, zdf, zb2_p, zbp_0, zbp_1, zbp_inj, zbp_01, Bool.true_eq_false, Bool.false_eq_true, true_and, and_true, Decidable.not_not, Classical.not_not, implies_true, List.nil_append, List.cons_append, List.append_assoc, Option.some.injEq, Sum.inl.injEq, zSw_c, zSw_n]); (try simp only [zit_e, Bool.and_eq_true, Bool.or_eq_true, Bool.not_eq_true', Bool.and_eq_false_iff, Bool.or_eq_false_iff, Bool.not_eq_false', zbe, zdt, zdf, zb2_p, zbp_0, zbp_1, zbp_inj, zbp_01, Bool.true_eq_false, Bool.false_eq_true, true_and, and_true, Decidable.not_not, Classical.not_not, implies_true, List.nil_append, List.cons_append, List.append_assoc, Option.some.injEq, Sum.inl.injEq, zSw_c, zSw_n, zc_355, f_M_isSmall, g_M_isSmall, f_M_isDigit, g_M_isDigit, f_M_wordOf, g_M_wordOf]); (try simp only [zi_cs, zi_c0, zii_cs, zii_c0, zl_cs, zl_c0, zll_cs, zll_c0, zr_cs, zr_c0, zrr_cs, zrr_c0, zxs_cs, zxs_c0, zxx_cs, zxx_c0, zfree_c0, zfree_c1, zfree_cs, zfree_cz, zlong_i, zlong_r, zlong_x, zset_0, zset_s, true_and, and_true, Option.some.injEq, Sum.inl.injEq, Sum.inr.injEq, zb2_p, zbp_0, zbp_1, zbp_inj, zbp_01, Nat.zero_add, Nat.reduceAdd, implies_true, List.nil_append, List.cons_append, List.append_assoc, Int.not_lt, Int.not_le, Decidable.not_not, Int.zero_add, Int.reduceLE, Int.reduceLT, Int.reduceEq, Int.reduceNe, Int.reduceAdd, Int.reduceSub, Int.reduceMul, Int.reduceNeg, Int.reduceToNat, Nat.reduceMul, Nat.reduceLT, Nat.reduceEqDiff, and_self, ite_true, ite_false, zx1, zx2, zRecv, List.length_cons, List.length_nil, ne_eq, not_true_eq_false, not_false_eq_true, true_or, or_true, or_false, false_or, and_false, false_and, zf01, zf10, reduceCtorEq, zSw_c, zSw_n, zm_r, zit_T, zit_F, false_implies, true_implies, zc_355, f_M_isSmall, g_M_isSmall, f_M_isDigit, g_M_isDigit, f_M_wordOf, g_M_wordOf])
      rw [k362, k361]
      refine ⟨fun q => by omega, ?_⟩
      refine zif (fun c3 => ?_) (fun c3 => ?_)
      · refine ⟨zI_s (by omega) (by omega), znx (by omega) ⟨?_, he.trans ?_⟩⟩
        · rw [show k + 1 + (j + 1) = k + 1 + j + 1 by omega, Int.natCast_add (k + 1 + j) 1]
          rfl
        · have hlt : k + 1 + j < n := by omega
          have hs2 : μ 362 ((k + 1 + j : Nat) : Int) = sgn (B ((k + 1 + j : Nat) : Int)) := hT _ hlt
          have hb2 := hB.2 _ hlt
          rw [hs2] at c3
          refine onE_t hlt ?_
          rw [isD_e]
          unfold sgn at c3
          split at c3 <;> omega
      have ee : tE B n k = k + 1 + j := by
        rw [tE_D hD]
        refine he.trans (onE_f (fun q => c3 ⟨by omega, ?_⟩))
        rw [hT _ q.1]
        have := q.2
        rw [isD_e] at this
        unfold sgn
        split <;> omega
      rw [← ee]
      clear he ee hj c3 j
      rw [h16]
      refine ⟨by omega, by omega, by omega, by omega, by omega, by omega, ⟨fun _ => ⟨by omega, hw⟩, fun _ _ => by rw [hza]; ((try simp only [zI_e]); (first | done | omega | skip))⟩, ?_⟩
      rw [zm_off 362 (by decide), zm_off 362 (by decide), k362, hza, hcode, ← hcT]
      refine zLoop.up (tE B n k - k) (fun j ρ μ3 => ρ = [vr 355, vi n, vi k, vi s, vi ((tE B n k : Nat) : Int), vi ((k + j : Nat) : Int)] ∧ (isD (B k) = true ∨ j = 0) ∧ μ3 355 = μ1 355 ∧ (∀ y : Int, μ3 364 y = zit (y = T) (cT B n T) (μ1 364 y)) ∧ (∀ y : Int, μ3 365 y = zit (y = T) (dV B k j) (μ1 365 y)) ∧ (∀ y : Int, μ3 366 y = zit (y = T) k (μ1 366 y)) ∧ zfc [355, 364, 365, 366] μ μ3) ⟨rfl, Or.inr rfl, ?_, fun y => ?_, fun y => ?_, fun y => ?_, ((hF.zm (by decide)).zm (by decide)).zm (by decide)⟩ ?_
      · rw [zm_off 355 (by decide), zm_off 355 (by decide), zm_off 355 (by decide)]
      · simp only [zm_r, zit_T, zit_F, Nat.reduceEqDiff]
      · simp only [zm_r, zit_T, zit_F, Nat.reduceEqDiff]
        rfl
      · simp only [zm_r, zit_T, zit_F, Nat.reduceEqDiff]
      rintro j ρ μ3 hj3 ⟨rfl, hdj, g55, g64, g65, g66, gF⟩
      have g362 : μ3 362 = μ 362 := gF 362 (by decide)
      (try simp only [zit_e, Bool.and_eq_true, Bool.or_eq_true, Bool.not_eq_true', Bool.and_eq_false_iff, Bool.or_eq_false_iff, Bool.not_eq_false', zbe, zdt, zdf, zb2_p, zbp_0, zbp_1, zbp_inj, zbp_01, Bool.true_eq_false, Bool.false_eq_true, true_and, and_true, Decidable.not_not, Classical.not_not, implies_true, List.nil_append, List.cons_append, List.append_assoc, Option.some.injEq, Sum.inl.injEq, zSw_c, zSw_n]); (try simp only [zit_e, Bool.and_eq_true, Bool.or_eq_true, Bool.not_eq_true', Bool.and_eq_false_iff, Bool.or_eq_false_iff, Bool.not_eq_false', zbe, zdt, zdf, zb2_p, zbp_0, zbp_1, zbp_inj, zbp_01, Bool.true_eq_false, Bool.false_eq_true, true_and, and_true, Decidable.not_not, Classical.not_not, implies_true, List.nil_append, List.cons_append, List.append_assoc, Option.some.injEq, Sum.inl.injEq, zSw_c, zSw_n, zc_355, f_M_isSmall, g_M_isSmall, f_M_isDigit, g_M_isDigit, f_M_wordOf, g_M_wordOf]); (try simp only [zi_cs, zi_c0, zii_cs, zii_c0, zl_cs, zl_c0, zll_cs, zll_c0, zr_cs, zr_c0, zrr_cs, zrr_c0, zxs_cs, zxs_c0, zxx_cs, zxx_c0, zfree_c0, zfree_c1, zfree_cs, zfree_cz, zlong_i, zlong_r, zlong_x, zset_0, zset_s, true_and, and_true, Option.some.injEq, Sum.inl.injEq, Sum.inr.injEq, zb2_p, zbp_0, zbp_1, zbp_inj, zbp_01, Nat.zero_add, Nat.reduceAdd, implies_true, List.nil_append, List.cons_append, List.append_assoc, Int.not_lt, Int.not_le, Decidable.not_not, Int.zero_add, Int.reduceLE, Int.reduceLT, Int.reduceEq, Int.reduceNe, Int.reduceAdd, Int.reduceSub, Int.reduceMul, Int.reduceNeg, Int.reduceToNat, Nat.reduceMul, Nat.reduceLT, Nat.reduceEqDiff, and_self, ite_true, ite_false, zx1, zx2, zRecv, List.length_cons, List.length_nil, ne_eq, not_true_eq_false, not_false_eq_true, true_or, or_true, or_false, false_or, and_false, false_and, zf01, zf10, reduceCtorEq, zSw_c, zSw_n, zm_r, zit_T, zit_F, false_implies, true_implies, zc_355, f_M_isSmall, g_M_isSmall, f_M_isDigit, g_M_isDigit, f_M_wordOf, g_M_wordOf])
      rw [g362, g55, h16, g65 (T : Int), zit_t rfl]
      refine zif (fun c5 => ?_) (fun c5 => ?_)
      · have hD : isD (B k) = true := hsD.mpr c5.2
        have hdig := tE_dig (n := n) hD
        have hdj0 := hdig j (by omega)
        have hdv := dV_in (B := B) (k := k) j (fun i hi => hdig i (by omega))
        have hsj : μ 362 ((k + j : Nat) : Int) = B (k + j) := by
          rw [hT _ (by omega), Int.natCast_add]
          unfold sgn
          rw [if_pos (by omega)]
        rw [hsj]
        refine ⟨by omega, by omega, ⟨⟨by omega, by omega⟩, ⟨fun _ => ⟨by omega, by omega⟩, fun _ => ⟨⟨⟨⟨by omega, by omega⟩, by ((try simp only [zI_e]); (first | done | omega | skip))⟩, ⟨by omega, by omega⟩, by ((try simp only [zI_e]); (first | done | omega | skip))⟩, by ((try simp only [zI_e]); (first | done | omega | skip))⟩⟩⟩, zI_s (by omega) (by omega), znx (by omega) ⟨?_, Or.inl hD, ?_, fun y => ?_, fun y => ?_, fun y => ?_, gF.zm (by decide)⟩⟩
        · rw [show k + (j + 1) = k + j + 1 by omega, Int.natCast_add (k + j) 1]
          rfl
        · rw [zm_off 355 (by decide)]
          exact g55
        · exact g64 y
        · by_cases ey : y = T
          · subst ey
            rw [zit_t rfl, zit_t rfl, dV]
            unfold zit
            split <;> rfl
          · rw [zit_f ey, zit_f ey, g65 y, zit_f ey]
        · exact g66 y
      have hval : dV B k j = vT B n T := by
        rw [hvT]
        unfold tV
        by_cases hD : isD (B k) = true
        · rw [if_pos hD, show j = tE B n k - k by have := hsD.mp hD; omega]
        · rw [if_neg hD]
          rcases hdj with q | q
          · exact absurd q hD
          · rw [q]
            rfl
      refine ⟨by ((try simp only [zI_e]); (first | done | omega | skip)), _, (show n - tE B n k < n - k by omega), T + 1, tE B n k, vi s, vi ((tE B n k : Nat) : Int), vi ((k + j : Nat) : Int), rfl, rfl, ⟨rfl, rfl, rfl⟩, rfl, by omega, by omega, hps1, fun u hu => ?_, fun y hy => ?_, gF.zm (by decide)⟩
      · rw [g64, g65, g66, hval]
        by_cases eu : u = T
        · subst eu
          rw [zit_t rfl, zit_t rfl, zit_t rfl, ← hps]
          exact ⟨hkn, rfl, rfl, rfl⟩
        · rw [zit_f (by omega), zit_f (by omega), zit_f (by omega)]
          exact hA u (by omega)
      · rw [zit_f hy, h55 y hy]
    rw [if_neg (fun q => hD (hsD.mpr q))]
    have ee : tE B n k = k + 1 := by
      unfold tE
      rw [if_neg hL, if_neg hD]
    rw [show (k : Int) + 1 = ((tE B n k : Nat) : Int) by rw [ee]; rfl]
    rw [h16]
    refine ⟨by omega, by omega, by omega, by omega, by omega, by omega, ⟨fun _ => ⟨by omega, by rw [k361]; exact hw⟩, fun _ _ => by rw [hza]; ((try simp only [zI_e]); (first | done | omega | skip))⟩, ?_⟩
    rw [zm_off 362 (by decide), zm_off 362 (by decide), k362, hza, hcode, ← hcT]
    refine zLoop.up (tE B n k - k) (fun j ρ μ3 => ρ = [vr 355, vi n, vi k, vi s, vi ((tE B n k : Nat) : Int), vi ((k + j : Nat) : Int)] ∧ (isD (B k) = true ∨ j = 0) ∧ μ3 355 = μ1 355 ∧ (∀ y : Int, μ3 364 y = zit (y = T) (cT B n T) (μ1 364 y)) ∧ (∀ y : Int, μ3 365 y = zit (y = T) (dV B k j) (μ1 365 y)) ∧ (∀ y : Int, μ3 366 y = zit (y = T) k (μ1 366 y)) ∧ zfc [355, 364, 365, 366] μ μ3) ⟨rfl, Or.inr rfl, ?_, fun y => ?_, fun y => ?_, fun y => ?_, ((hF.zm (by decide)).zm (by decide)).zm (by decide)⟩ ?_
    · rw [zm_off 355 (by decide), zm_off 355 (by decide), zm_off 355 (by decide)]
    · simp only [zm_r, zit_T, zit_F, Nat.reduceEqDiff]
    · simp only [zm_r, zit_T, zit_F, Nat.reduceEqDiff]
      rfl
    · simp only [zm_r, zit_T, zit_F, Nat.reduceEqDiff]
    rintro j ρ μ3 hj3 ⟨rfl, hdj, g55, g64, g65, g66, gF⟩
    have g362 : μ3 362 = μ 362 := gF 362 (by decide)
    (try simp only [zit_e, Bool.and_eq_true, Bool.or_eq_true, Bool.not_eq_true', Bool.and_eq_false_iff, Bool.or_eq_false_iff, Bool.not_eq_false', zbe, zdt, zdf, zb2_p, zbp_0, zbp_1, zbp_inj, zbp_01, Bool.true_eq_false, Bool.false_eq_true, true_and, and_true, Decidable.not_not, Classical.not_not, implies_true, List.nil_append, List.cons_append, List.append_assoc, Option.some.injEq, Sum.inl.injEq, zSw_c, zSw_n]); (try simp only [zit_e, Bool.and_eq_true, Bool.or_eq_true, Bool.not_eq_true', Bool.and_eq_false_iff, Bool.or_eq_false_iff, Bool.not_eq_false', zbe, zdt, zdf, zb2_p, zbp_0, zbp_1, zbp_inj, zbp_01, Bool.true_eq_false, Bool.false_eq_true, true_and, and_true, Decidable.not_not, Classical.not_not, implies_true, List.nil_append, List.cons_append, List.append_assoc, Option.some.injEq, Sum.inl.injEq, zSw_c, zSw_n, zc_355, f_M_isSmall, g_M_isSmall, f_M_isDigit, g_M_isDigit, f_M_wordOf, g_M_wordOf]); (try simp only [zi_cs, zi_c0, zii_cs, zii_c0, zl_cs, zl_c0, zll_cs, zll_c0, zr_cs, zr_c0, zrr_cs, zrr_c0, zxs_cs, zxs_c0, zxx_cs, zxx_c0, zfree_c0, zfree_c1, zfree_cs, zfree_cz, zlong_i, zlong_r, zlong_x, zset_0, zset_s, true_and, and_true, Option.some.injEq, Sum.inl.injEq, Sum.inr.injEq, zb2_p, zbp_0, zbp_1, zbp_inj, zbp_01, Nat.zero_add, Nat.reduceAdd, implies_true, List.nil_append, List.cons_append, List.append_assoc, Int.not_lt, Int.not_le, Decidable.not_not, Int.zero_add, Int.reduceLE, Int.reduceLT, Int.reduceEq, Int.reduceNe, Int.reduceAdd, Int.reduceSub, Int.reduceMul, Int.reduceNeg, Int.reduceToNat, Nat.reduceMul, Nat.reduceLT, Nat.reduceEqDiff, and_self, ite_true, ite_false, zx1, zx2, zRecv, List.length_cons, List.length_nil, ne_eq, not_true_eq_false, not_false_eq_true, true_or, or_true, or_false, false_or, and_false, false_and, zf01, zf10, reduceCtorEq, zSw_c, zSw_n, zm_r, zit_T, zit_F, false_implies, true_implies, zc_355, f_M_isSmall, g_M_isSmall, f_M_isDigit, g_M_isDigit, f_M_wordOf, g_M_wordOf])
    rw [g362, g55, h16, g65 (T : Int), zit_t rfl]
    refine zif (fun c5 => ?_) (fun c5 => ?_)
    · have hD : isD (B k) = true := hsD.mpr c5.2
      have hdig := tE_dig (n := n) hD
      have hdj0 := hdig j (by omega)
      have hdv := dV_in (B := B) (k := k) j (fun i hi => hdig i (by omega))
      have hsj : μ 362 ((k + j : Nat) : Int) = B (k + j) := by
        rw [hT _ (by omega), Int.natCast_add]
        unfold sgn
        rw [if_pos (by omega)]
      rw [hsj]
      refine ⟨by omega, by omega, ⟨⟨by omega, by omega⟩, ⟨fun _ => ⟨by omega, by omega⟩, fun _ => ⟨⟨⟨⟨by omega, by omega⟩, by ((try simp only [zI_e]); (first | done | omega | skip))⟩, ⟨by omega, by omega⟩, by ((try simp only [zI_e]); (first | done | omega | skip))⟩, by ((try simp only [zI_e]); (first | done | omega | skip))⟩⟩⟩, zI_s (by omega) (by omega), znx (by omega) ⟨?_, Or.inl hD, ?_, fun y => ?_, fun y => ?_, fun y => ?_, gF.zm (by decide)⟩⟩
      · rw [show k + (j + 1) = k + j + 1 by omega, Int.natCast_add (k + j) 1]
        rfl
      · rw [zm_off 355 (by decide)]
        exact g55
      · exact g64 y
      · by_cases ey : y = T
        · subst ey
          rw [zit_t rfl, zit_t rfl, dV]
          unfold zit
          split <;> rfl
        · rw [zit_f ey, zit_f ey, g65 y, zit_f ey]
      · exact g66 y
    have hval : dV B k j = vT B n T := by
      rw [hvT]
      unfold tV
      by_cases hD : isD (B k) = true
      · rw [if_pos hD, show j = tE B n k - k by have := hsD.mp hD; omega]
      · rw [if_neg hD]
        rcases hdj with q | q
        · exact absurd q hD
        · rw [q]
          rfl
    refine ⟨by ((try simp only [zI_e]); (first | done | omega | skip)), _, (show n - tE B n k < n - k by omega), T + 1, tE B n k, vi s, vi ((tE B n k : Nat) : Int), vi ((k + j : Nat) : Int), rfl, rfl, ⟨rfl, rfl, rfl⟩, rfl, by omega, by omega, hps1, fun u hu => ?_, fun y hy => ?_, gF.zm (by decide)⟩
    · rw [g64, g65, g66, hval]
      by_cases eu : u = T
      · subst eu
        rw [zit_t rfl, zit_t rfl, zit_t rfl, ← hps]
        exact ⟨hkn, rfl, rfl, rfl⟩
      · rw [zit_f (by omega), zit_f (by omega), zit_f (by omega)]
        exact hA u (by omega)
    · rw [zit_f hy, h55 y hy]
  · rw [h16]
    have hkn : k = n := by omega
    rw [hkn, onE_f (fun q => by have := q.1; omega)] at hps
    refine ⟨by omega, by omega, by omega, by omega, by omega, by omega, ⟨T, ⟨?_, fun u hu => ?_⟩, ⟨show T ≤ 400 by omega, fun u hu => ?_, fun u => vT_in, fun u => by show (0 : Int) ≤ ((ps B n u : Nat) : Int); omega⟩, fun u hu => (hA u hu).1, hps.symm⟩, h55, ((hF.zm (by decide)).zm (by decide)).zm (by decide)⟩
    · rw [zm_off 355 (by decide), zm_off 355 (by decide), zm_off 355 (by decide)]
      exact h16
    · have hu2 : u ≤ T := hu
      simp only [zm_r, zit_T, zit_F, Nat.reduceEqDiff]
      by_cases eu : u = T
      · subst eu
        rw [zit_t rfl, zit_t rfl, zit_t rfl]
        have hc0 : cT B n u = 0 := by
          unfold cT
          rw [← hps, if_neg (by omega)]
        have hv0 : vT B n u = 0 := by
          unfold vT
          rw [← hps, if_neg (by omega)]
        rw [hc0, hv0, ← hps]
        exact ⟨rfl, rfl, rfl⟩
      · rw [zit_f (by omega), zit_f (by omega), zit_f (by omega)]
        exact (hA u (by omega)).2
    · have hu2 : T ≤ u := hu
      have hpu : ps B n u = n := by
        have : ∀ q, ps B n (T + q) = n := by
          intro q
          induction q with
          | zero => exact hps.symm
          | succ q ih => rw [show T + (q + 1) = T + q + 1 by omega, ps, if_neg (by omega), ih]
        have := this (u - T)
        rwa [show T + (u - T) = u by omega] at this
      show cT B n u = 0
      unfold cT
      rw [if_neg (by omega)]

