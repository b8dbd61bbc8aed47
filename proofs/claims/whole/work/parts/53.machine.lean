/-! the machine's run -/
/-- the stack, its top first -/
def stk (μ : zMem) (n : Nat) : List Int := (tL n (μ 327)).reverse
theorem stk_s {μ : zMem} {n : Nat} : stk μ (n + 1) = μ 327 n :: stk μ n := by
  unfold stk
  rw [tL_succ, List.reverse_append]
  rfl
theorem stk_c {μ μ' : zMem} {n : Nat} (h : ∀ i : Int, 0 ≤ i → i < n → μ' 327 i = μ 327 i) : stk μ' n = stk μ n := by
  unfold stk
  rw [tL_congr h]
theorem stk_zm {μ : zMem} {n : Nat} {k v : Int} (h : (n : Int) ≤ k) : stk (zm μ 327 k v) n = stk μ n := stk_c (fun i h0 h1 => by rw [zm_r, zit_t rfl, zit_f (by omega)])
theorem stk_len {μ : zMem} {n : Nat} : (stk μ n).length = n := by
  unfold stk
  rw [List.length_reverse, tL_len]
theorem zop_e {v : Int} (h : 0 ≤ v ∧ v ≤ 1000000) : zshr v 12 = v / 4096 ∧ zand v 4095 = v % 4096 := by
  obtain ⟨m, rfl⟩ := Int.eq_ofNat_of_zero_le h.1
  have e1 := zshr_n (a := m) (k := 12) (by omega) (by omega)
  have e2 := zand_n (a := m) (b := 4095) (by omega) (by omega)
  rw [Nat.shiftRight_eq_div_pow] at e1
  rw [show 4095 = 2 ^ 12 - 1 from rfl, Nat.and_two_pow_sub_one_eq_mod] at e2
  exact ⟨e1, e2⟩
theorem m_Ma_breakOff : Cond.instanceMethod y_Ma_breakOff.1 ∈ zTb ∧ Cond.selects y_Ma_breakOff.1.cls y_Ma_breakOff.1 y_Ma_breakOff.1 ∈ zTb ∧ Cond.initialized y_Ma_breakOff.1.cls ∈ zTb ∧ Cond.code y_Ma_breakOff.1 y_Ma_breakOff.2.1 y_Ma_breakOff.2.2.1 y_Ma_breakOff.2.2.2 ∈ zTb ∧ (y_Ma_breakOff.1.cls ≠ "java/lang/invoke/MethodHandle" ∧ y_Ma_breakOff.1.cls ≠ "java/lang/invoke/VarHandle" ∧ (parseMethodDescriptor y_Ma_breakOff.1.desc).map (fun d => d.parameters.length) = some 0) ∧ y_Ma_breakOff.2.2.1 ≤ 20 :=
  ⟨(zTb_in 681 (by decide +kernel) (by decide +kernel)), (List.mem_filter.mpr ⟨List.mem_append_left _ (by decide +kernel), by decide +kernel⟩), (zTb_in 145 (by decide +kernel) (by decide +kernel)), (zTb_in 682 (by decide +kernel) (by decide +kernel)), by decide +kernel, by decide +kernel⟩
theorem lv_Ma_22 : zLv "DebtDoors$Machine" 22 y_Ma_breakOff 0 3 := ⟨⟨(zTb_in 679 (by decide +kernel) (by decide +kernel)), m_Ma_breakOff.1, m_Ma_breakOff.2.1, m_Ma_breakOff.2.2⟩, _, rfl, rfl⟩
theorem nk_3_1 : zNk 3 1 = none := rfl
theorem nk_3_0 : zNk 3 0 = none := rfl
theorem km_Ma_26 : Cond.methodLink "DebtDoors$Machine" 26 Lib.Math.max.name ∈ zTb := (zTb_in 683 (by decide +kernel) (by decide +kernel))
theorem m_Ma_join : Cond.static y_Ma_join.1 ∈ zTb ∧ Cond.initialized y_Ma_join.1.cls ∈ zTb ∧ Cond.code y_Ma_join.1 y_Ma_join.2.1 y_Ma_join.2.2.1 y_Ma_join.2.2.2 ∈ zTb ∧ (y_Ma_join.1.cls ≠ "java/lang/invoke/MethodHandle" ∧ y_Ma_join.1.cls ≠ "java/lang/invoke/VarHandle" ∧ (parseMethodDescriptor y_Ma_join.1.desc).map (fun d => d.parameters.length) = some 3) ∧ y_Ma_join.2.2.1 ≤ 20 :=
  ⟨(zTb_in 687 (by decide +kernel) (by decide +kernel)), (zTb_in 145 (by decide +kernel) (by decide +kernel)), (zTb_in 688 (by decide +kernel) (by decide +kernel)), by decide +kernel, by decide +kernel⟩
theorem ls_Ma_32 : zLs "DebtDoors$Machine" 32 y_Ma_join 3 := Or.inl ⟨(zTb_in 686 (by decide +kernel) (by decide +kernel)), m_Ma_join⟩
theorem kl_Ma_36 : Cond.constantLong "DebtDoors$Machine" 36 (Int64.ofInt 1000000000) ∈ zTb := (zTb_in 690 (by decide +kernel) (by decide +kernel))
theorem kl_Ma_38 : Cond.constantLong "DebtDoors$Machine" 38 (Int64.ofInt (-1000000000)) ∈ zTb := (zTb_in 691 (by decide +kernel) (by decide +kernel))
def y_Ma_value : zMt := (⟨"DebtDoors$Machine", "value", "([III)I"⟩, prog_5_method_2_code, 10, some .int)
theorem d_Ma_value_0 : decode prog_5_method_2_code 0 = .ok (.aload_n 0, 1) := by decide +kernel
theorem d_Ma_value_1 : decode prog_5_method_2_code 1 = .ok (.iconst 0, 1) := by decide +kernel
theorem d_Ma_value_2 : decode prog_5_method_2_code 2 = .ok (.putfield 18, 3) := by decide +kernel
theorem d_Ma_value_5 : decode prog_5_method_2_code 5 = .ok (.iconst (-1), 1) := by decide +kernel
theorem d_Ma_value_6 : decode prog_5_method_2_code 6 = .ok (.istore 4, 2) := by decide +kernel
theorem d_Ma_value_8 : decode prog_5_method_2_code 8 = .ok (.iload_n 2, 1) := by decide +kernel
theorem d_Ma_value_9 : decode prog_5_method_2_code 9 = .ok (.istore 5, 2) := by decide +kernel
theorem d_Ma_value_11 : decode prog_5_method_2_code 11 = .ok (.iload 5, 2) := by decide +kernel
theorem d_Ma_value_13 : decode prog_5_method_2_code 13 = .ok (.ifCond .lt 279, 3) := by decide +kernel
theorem d_Ma_value_16 : decode prog_5_method_2_code 16 = .ok (.iload 5, 2) := by decide +kernel
theorem d_Ma_value_18 : decode prog_5_method_2_code 18 = .ok (.iload_n 3, 1) := by decide +kernel
theorem d_Ma_value_19 : decode prog_5_method_2_code 19 = .ok (.if_icmp .ge 273, 3) := by decide +kernel
theorem d_Ma_value_22 : decode prog_5_method_2_code 22 = .ok (.iload 5, 2) := by decide +kernel
theorem d_Ma_value_24 : decode prog_5_method_2_code 24 = .ok (.aload_n 1, 1) := by decide +kernel
theorem d_Ma_value_25 : decode prog_5_method_2_code 25 = .ok (.arraylength, 1) := by decide +kernel
theorem d_Ma_value_26 : decode prog_5_method_2_code 26 = .ok (.if_icmp .ge 266, 3) := by decide +kernel
theorem d_Ma_value_29 : decode prog_5_method_2_code 29 = .ok (.aload_n 1, 1) := by decide +kernel
theorem d_Ma_value_30 : decode prog_5_method_2_code 30 = .ok (.iload 5, 2) := by decide +kernel
theorem d_Ma_value_32 : decode prog_5_method_2_code 32 = .ok (.iaload, 1) := by decide +kernel
theorem d_Ma_value_33 : decode prog_5_method_2_code 33 = .ok (.bipush 12, 2) := by decide +kernel
theorem d_Ma_value_35 : decode prog_5_method_2_code 35 = .ok (.ishr, 1) := by decide +kernel
theorem d_Ma_value_36 : decode prog_5_method_2_code 36 = .ok (.istore 6, 2) := by decide +kernel
theorem d_Ma_value_38 : decode prog_5_method_2_code 38 = .ok (.aload_n 1, 1) := by decide +kernel
theorem d_Ma_value_39 : decode prog_5_method_2_code 39 = .ok (.iload 5, 2) := by decide +kernel
theorem d_Ma_value_41 : decode prog_5_method_2_code 41 = .ok (.iaload, 1) := by decide +kernel
theorem d_Ma_value_42 : decode prog_5_method_2_code 42 = .ok (.sipush 4095, 3) := by decide +kernel
theorem d_Ma_value_45 : decode prog_5_method_2_code 45 = .ok (.iand, 1) := by decide +kernel
theorem d_Ma_value_46 : decode prog_5_method_2_code 46 = .ok (.istore 7, 2) := by decide +kernel
theorem d_Ma_value_48 : decode prog_5_method_2_code 48 = .ok (.iload 6, 2) := by decide +kernel
theorem d_Ma_value_50 : decode prog_5_method_2_code 50 = .ok (.iconst 1, 1) := by decide +kernel
theorem d_Ma_value_51 : decode prog_5_method_2_code 51 = .ok (.if_icmp .eq 9, 3) := by decide +kernel
theorem d_Ma_value_54 : decode prog_5_method_2_code 54 = .ok (.iload 6, 2) := by decide +kernel
theorem d_Ma_value_56 : decode prog_5_method_2_code 56 = .ok (.iconst 2, 1) := by decide +kernel
theorem d_Ma_value_57 : decode prog_5_method_2_code 57 = .ok (.if_icmp .ne 61, 3) := by decide +kernel
theorem d_Ma_value_60 : decode prog_5_method_2_code 60 = .ok (.iload 4, 2) := by decide +kernel
theorem d_Ma_value_62 : decode prog_5_method_2_code 62 = .ok (.iconst 1, 1) := by decide +kernel
theorem d_Ma_value_63 : decode prog_5_method_2_code 63 = .ok (.iadd, 1) := by decide +kernel
theorem d_Ma_value_64 : decode prog_5_method_2_code 64 = .ok (.bipush 64, 2) := by decide +kernel
theorem d_Ma_value_66 : decode prog_5_method_2_code 66 = .ok (.if_icmp .ge 16, 3) := by decide +kernel
theorem d_Ma_value_69 : decode prog_5_method_2_code 69 = .ok (.iload 6, 2) := by decide +kernel
theorem d_Ma_value_71 : decode prog_5_method_2_code 71 = .ok (.iconst 2, 1) := by decide +kernel
theorem d_Ma_value_72 : decode prog_5_method_2_code 72 = .ok (.if_icmp .ne 15, 3) := by decide +kernel
theorem d_Ma_value_75 : decode prog_5_method_2_code 75 = .ok (.iload 7, 2) := by decide +kernel
theorem d_Ma_value_77 : decode prog_5_method_2_code 77 = .ok (.bipush 60, 2) := by decide +kernel
theorem d_Ma_value_79 : decode prog_5_method_2_code 79 = .ok (.if_icmp .lt 8, 3) := by decide +kernel
theorem d_Ma_value_82 : decode prog_5_method_2_code 82 = .ok (.aload_n 0, 1) := by decide +kernel
theorem d_Ma_value_83 : decode prog_5_method_2_code 83 = .ok (.invokevirtual 22, 3) := by decide +kernel
theorem d_Ma_value_86 : decode prog_5_method_2_code 86 = .ok (.ireturn, 1) := by decide +kernel
theorem d_Ma_value_87 : decode prog_5_method_2_code 87 = .ok (.iinc 4 1, 3) := by decide +kernel
theorem d_Ma_value_90 : decode prog_5_method_2_code 90 = .ok (.aload_n 0, 1) := by decide +kernel
theorem d_Ma_value_91 : decode prog_5_method_2_code 91 = .ok (.getfield 15, 3) := by decide +kernel
theorem d_Ma_value_94 : decode prog_5_method_2_code 94 = .ok (.iload 4, 2) := by decide +kernel
theorem d_Ma_value_96 : decode prog_5_method_2_code 96 = .ok (.iload 6, 2) := by decide +kernel
theorem d_Ma_value_98 : decode prog_5_method_2_code 98 = .ok (.iconst 1, 1) := by decide +kernel
theorem d_Ma_value_99 : decode prog_5_method_2_code 99 = .ok (.if_icmp .ne 8, 3) := by decide +kernel
theorem d_Ma_value_102 : decode prog_5_method_2_code 102 = .ok (.iload 7, 2) := by decide +kernel
theorem d_Ma_value_104 : decode prog_5_method_2_code 104 = .ok (.goto 10, 3) := by decide +kernel
theorem d_Ma_value_107 : decode prog_5_method_2_code 107 = .ok (.aload_n 0, 1) := by decide +kernel
theorem d_Ma_value_108 : decode prog_5_method_2_code 108 = .ok (.getfield 9, 3) := by decide +kernel
theorem d_Ma_value_111 : decode prog_5_method_2_code 111 = .ok (.iload 7, 2) := by decide +kernel
theorem d_Ma_value_113 : decode prog_5_method_2_code 113 = .ok (.iaload, 1) := by decide +kernel
theorem d_Ma_value_114 : decode prog_5_method_2_code 114 = .ok (.iastore, 1) := by decide +kernel
theorem d_Ma_value_115 : decode prog_5_method_2_code 115 = .ok (.goto 171, 3) := by decide +kernel
theorem d_Ma_value_118 : decode prog_5_method_2_code 118 = .ok (.iload 4, 2) := by decide +kernel
theorem d_Ma_value_120 : decode prog_5_method_2_code 120 = .ok (.ifCond .ge 8, 3) := by decide +kernel
theorem d_Ma_value_123 : decode prog_5_method_2_code 123 = .ok (.aload_n 0, 1) := by decide +kernel
theorem d_Ma_value_124 : decode prog_5_method_2_code 124 = .ok (.invokevirtual 22, 3) := by decide +kernel
theorem d_Ma_value_127 : decode prog_5_method_2_code 127 = .ok (.ireturn, 1) := by decide +kernel
theorem d_Ma_value_128 : decode prog_5_method_2_code 128 = .ok (.iload 6, 2) := by decide +kernel
theorem d_Ma_value_130 : decode prog_5_method_2_code 130 = .ok (.iconst 3, 1) := by decide +kernel
theorem d_Ma_value_131 : decode prog_5_method_2_code 131 = .ok (.if_icmp .ne 22, 3) := by decide +kernel
theorem d_Ma_value_134 : decode prog_5_method_2_code 134 = .ok (.aload_n 0, 1) := by decide +kernel
theorem d_Ma_value_135 : decode prog_5_method_2_code 135 = .ok (.getfield 15, 3) := by decide +kernel
theorem d_Ma_value_138 : decode prog_5_method_2_code 138 = .ok (.iload 4, 2) := by decide +kernel
theorem d_Ma_value_140 : decode prog_5_method_2_code 140 = .ok (.iconst 1, 1) := by decide +kernel
theorem d_Ma_value_141 : decode prog_5_method_2_code 141 = .ok (.aload_n 0, 1) := by decide +kernel
theorem d_Ma_value_142 : decode prog_5_method_2_code 142 = .ok (.getfield 15, 3) := by decide +kernel
theorem d_Ma_value_145 : decode prog_5_method_2_code 145 = .ok (.iload 4, 2) := by decide +kernel
theorem d_Ma_value_147 : decode prog_5_method_2_code 147 = .ok (.iaload, 1) := by decide +kernel
theorem d_Ma_value_148 : decode prog_5_method_2_code 148 = .ok (.isub, 1) := by decide +kernel
theorem d_Ma_value_149 : decode prog_5_method_2_code 149 = .ok (.iastore, 1) := by decide +kernel
theorem d_Ma_value_150 : decode prog_5_method_2_code 150 = .ok (.goto 136, 3) := by decide +kernel
theorem d_Ma_value_153 : decode prog_5_method_2_code 153 = .ok (.iload 6, 2) := by decide +kernel
theorem d_Ma_value_155 : decode prog_5_method_2_code 155 = .ok (.iconst 4, 1) := by decide +kernel
theorem d_Ma_value_156 : decode prog_5_method_2_code 156 = .ok (.if_icmp .eq 9, 3) := by decide +kernel
theorem d_Ma_value_159 : decode prog_5_method_2_code 159 = .ok (.iload 6, 2) := by decide +kernel
theorem d_Ma_value_161 : decode prog_5_method_2_code 161 = .ok (.iconst 5, 1) := by decide +kernel
theorem d_Ma_value_162 : decode prog_5_method_2_code 162 = .ok (.if_icmp .ne 52, 3) := by decide +kernel
theorem d_Ma_value_165 : decode prog_5_method_2_code 165 = .ok (.aload_n 0, 1) := by decide +kernel
theorem d_Ma_value_166 : decode prog_5_method_2_code 166 = .ok (.getfield 15, 3) := by decide +kernel
theorem d_Ma_value_169 : decode prog_5_method_2_code 169 = .ok (.iload 4, 2) := by decide +kernel
theorem d_Ma_value_171 : decode prog_5_method_2_code 171 = .ok (.iaload, 1) := by decide +kernel
theorem d_Ma_value_172 : decode prog_5_method_2_code 172 = .ok (.ifCond .eq 7, 3) := by decide +kernel
theorem d_Ma_value_175 : decode prog_5_method_2_code 175 = .ok (.iconst 1, 1) := by decide +kernel
theorem d_Ma_value_176 : decode prog_5_method_2_code 176 = .ok (.goto 4, 3) := by decide +kernel
theorem d_Ma_value_179 : decode prog_5_method_2_code 179 = .ok (.iconst 0, 1) := by decide +kernel
theorem d_Ma_value_180 : decode prog_5_method_2_code 180 = .ok (.iload 6, 2) := by decide +kernel
theorem d_Ma_value_182 : decode prog_5_method_2_code 182 = .ok (.iconst 5, 1) := by decide +kernel
theorem d_Ma_value_183 : decode prog_5_method_2_code 183 = .ok (.if_icmp .ne 7, 3) := by decide +kernel
theorem d_Ma_value_186 : decode prog_5_method_2_code 186 = .ok (.iconst 1, 1) := by decide +kernel
theorem d_Ma_value_187 : decode prog_5_method_2_code 187 = .ok (.goto 4, 3) := by decide +kernel
theorem d_Ma_value_190 : decode prog_5_method_2_code 190 = .ok (.iconst 0, 1) := by decide +kernel
theorem d_Ma_value_191 : decode prog_5_method_2_code 191 = .ok (.if_icmp .ne 17, 3) := by decide +kernel
theorem d_Ma_value_194 : decode prog_5_method_2_code 194 = .ok (.iload 5, 2) := by decide +kernel
theorem d_Ma_value_196 : decode prog_5_method_2_code 196 = .ok (.iload 7, 2) := by decide +kernel
theorem d_Ma_value_198 : decode prog_5_method_2_code 198 = .ok (.iconst 1, 1) := by decide +kernel
theorem d_Ma_value_199 : decode prog_5_method_2_code 199 = .ok (.isub, 1) := by decide +kernel
theorem d_Ma_value_200 : decode prog_5_method_2_code 200 = .ok (.invokestatic 26, 3) := by decide +kernel
theorem d_Ma_value_203 : decode prog_5_method_2_code 203 = .ok (.istore 5, 2) := by decide +kernel
theorem d_Ma_value_205 : decode prog_5_method_2_code 205 = .ok (.goto 81, 3) := by decide +kernel
theorem d_Ma_value_208 : decode prog_5_method_2_code 208 = .ok (.iinc 4 (-1), 3) := by decide +kernel
theorem d_Ma_value_211 : decode prog_5_method_2_code 211 = .ok (.goto 75, 3) := by decide +kernel
theorem d_Ma_value_214 : decode prog_5_method_2_code 214 = .ok (.iload 4, 2) := by decide +kernel
theorem d_Ma_value_216 : decode prog_5_method_2_code 216 = .ok (.iconst 1, 1) := by decide +kernel
theorem d_Ma_value_217 : decode prog_5_method_2_code 217 = .ok (.if_icmp .ge 8, 3) := by decide +kernel
theorem d_Ma_value_220 : decode prog_5_method_2_code 220 = .ok (.aload_n 0, 1) := by decide +kernel
theorem d_Ma_value_221 : decode prog_5_method_2_code 221 = .ok (.invokevirtual 22, 3) := by decide +kernel
theorem d_Ma_value_224 : decode prog_5_method_2_code 224 = .ok (.ireturn, 1) := by decide +kernel
theorem d_Ma_value_225 : decode prog_5_method_2_code 225 = .ok (.iload 6, 2) := by decide +kernel
theorem d_Ma_value_227 : decode prog_5_method_2_code 227 = .ok (.aload_n 0, 1) := by decide +kernel
theorem d_Ma_value_228 : decode prog_5_method_2_code 228 = .ok (.getfield 15, 3) := by decide +kernel
theorem d_Ma_value_231 : decode prog_5_method_2_code 231 = .ok (.iload 4, 2) := by decide +kernel
theorem d_Ma_value_233 : decode prog_5_method_2_code 233 = .ok (.iconst 1, 1) := by decide +kernel
theorem d_Ma_value_234 : decode prog_5_method_2_code 234 = .ok (.isub, 1) := by decide +kernel
theorem d_Ma_value_235 : decode prog_5_method_2_code 235 = .ok (.iaload, 1) := by decide +kernel
theorem d_Ma_value_236 : decode prog_5_method_2_code 236 = .ok (.i2l, 1) := by decide +kernel
theorem d_Ma_value_237 : decode prog_5_method_2_code 237 = .ok (.aload_n 0, 1) := by decide +kernel
theorem d_Ma_value_238 : decode prog_5_method_2_code 238 = .ok (.getfield 15, 3) := by decide +kernel
theorem d_Ma_value_241 : decode prog_5_method_2_code 241 = .ok (.iload 4, 2) := by decide +kernel
theorem d_Ma_value_243 : decode prog_5_method_2_code 243 = .ok (.iaload, 1) := by decide +kernel
theorem d_Ma_value_244 : decode prog_5_method_2_code 244 = .ok (.i2l, 1) := by decide +kernel
theorem d_Ma_value_245 : decode prog_5_method_2_code 245 = .ok (.invokestatic 32, 3) := by decide +kernel
theorem d_Ma_value_248 : decode prog_5_method_2_code 248 = .ok (.lstore 8, 2) := by decide +kernel
theorem d_Ma_value_250 : decode prog_5_method_2_code 250 = .ok (.lload 8, 2) := by decide +kernel
theorem d_Ma_value_252 : decode prog_5_method_2_code 252 = .ok (.ldc2_w 36, 3) := by decide +kernel
theorem d_Ma_value_255 : decode prog_5_method_2_code 255 = .ok (.lcmp, 1) := by decide +kernel
theorem d_Ma_value_256 : decode prog_5_method_2_code 256 = .ok (.ifCond .gt 12, 3) := by decide +kernel
theorem d_Ma_value_259 : decode prog_5_method_2_code 259 = .ok (.lload 8, 2) := by decide +kernel
theorem d_Ma_value_261 : decode prog_5_method_2_code 261 = .ok (.ldc2_w 38, 3) := by decide +kernel
theorem d_Ma_value_264 : decode prog_5_method_2_code 264 = .ok (.lcmp, 1) := by decide +kernel
theorem d_Ma_value_265 : decode prog_5_method_2_code 265 = .ok (.ifCond .ge 8, 3) := by decide +kernel
theorem d_Ma_value_268 : decode prog_5_method_2_code 268 = .ok (.aload_n 0, 1) := by decide +kernel
theorem d_Ma_value_269 : decode prog_5_method_2_code 269 = .ok (.invokevirtual 22, 3) := by decide +kernel
theorem d_Ma_value_272 : decode prog_5_method_2_code 272 = .ok (.ireturn, 1) := by decide +kernel
theorem d_Ma_value_273 : decode prog_5_method_2_code 273 = .ok (.iinc 4 (-1), 3) := by decide +kernel
theorem d_Ma_value_276 : decode prog_5_method_2_code 276 = .ok (.aload_n 0, 1) := by decide +kernel
theorem d_Ma_value_277 : decode prog_5_method_2_code 277 = .ok (.getfield 15, 3) := by decide +kernel
theorem d_Ma_value_280 : decode prog_5_method_2_code 280 = .ok (.iload 4, 2) := by decide +kernel
theorem d_Ma_value_282 : decode prog_5_method_2_code 282 = .ok (.lload 8, 2) := by decide +kernel
theorem d_Ma_value_284 : decode prog_5_method_2_code 284 = .ok (.l2i, 1) := by decide +kernel
theorem d_Ma_value_285 : decode prog_5_method_2_code 285 = .ok (.iastore, 1) := by decide +kernel
theorem d_Ma_value_286 : decode prog_5_method_2_code 286 = .ok (.iinc 5 1, 3) := by decide +kernel
theorem d_Ma_value_289 : decode prog_5_method_2_code 289 = .ok (.goto (-278), 3) := by decide +kernel
theorem d_Ma_value_292 : decode prog_5_method_2_code 292 = .ok (.iload 4, 2) := by decide +kernel
theorem d_Ma_value_294 : decode prog_5_method_2_code 294 = .ok (.ifCond .lt 13, 3) := by decide +kernel
theorem d_Ma_value_297 : decode prog_5_method_2_code 297 = .ok (.aload_n 0, 1) := by decide +kernel
theorem d_Ma_value_298 : decode prog_5_method_2_code 298 = .ok (.getfield 15, 3) := by decide +kernel
theorem d_Ma_value_301 : decode prog_5_method_2_code 301 = .ok (.iload 4, 2) := by decide +kernel
theorem d_Ma_value_303 : decode prog_5_method_2_code 303 = .ok (.iaload, 1) := by decide +kernel
theorem d_Ma_value_304 : decode prog_5_method_2_code 304 = .ok (.goto 7, 3) := by decide +kernel
theorem d_Ma_value_307 : decode prog_5_method_2_code 307 = .ok (.aload_n 0, 1) := by decide +kernel
theorem d_Ma_value_308 : decode prog_5_method_2_code 308 = .ok (.invokevirtual 22, 3) := by decide +kernel
theorem d_Ma_value_311 : decode prog_5_method_2_code 311 = .ok (.ireturn, 1) := by decide +kernel
def w_Ma_value {d : Nat} (hd : 3 ≤ d) := (show SS ("DebtDoors$Machine", prog_5_method_2_code, 10) (some .int) d 0 0 0 0 _ from (sS (p1 := 5) (sP 2 fl_Ma_18 fp_3_2 nk_3_2 (rAn 0 d_Ma_value_0 rfl) (xE (rI d_Ma_value_1 rfl)) d_Ma_value_2 rfl) (sS (p1 := 8) (sI (xE (rI d_Ma_value_5 rfl)) d_Ma_value_6 (by decide)) (sS (p1 := 292) (sS (p1 := 11) (sI (xE (rIn 2 d_Ma_value_8 rfl)) d_Ma_value_9 (by decide)) (sLp (ps := 286) (tt := 29) (pn := 292) (p1 := 0) (p2 := 0) (xC (rAnd (mm := 22) (rAnd (mm := 16) (rNot (rJ1 (tgt := 292) k_lt (rIl d_Ma_value_11) d_Ma_value_13 (by decide))) (rNot (rJ2 (tgt := 292) j_ge (rIl d_Ma_value_16) (rIn 3 d_Ma_value_18 rfl) d_Ma_value_19 (by decide)))) (rNot (rJ2 (tgt := 292) j_ge (rIl d_Ma_value_22) (rLen (rAn 1 d_Ma_value_24 rfl) d_Ma_value_25) d_Ma_value_26 (by decide))))) (sS (p1 := 38) (sI (xE (r2 o_shr (rIa (rAn 1 d_Ma_value_29 rfl) (rIl d_Ma_value_30) d_Ma_value_32) (rB d_Ma_value_33 rfl) d_Ma_value_35)) d_Ma_value_36 (by decide)) (sS (p1 := 48) (sI (xE (r2 o_and (rIa (rAn 1 d_Ma_value_38 rfl) (rIl d_Ma_value_39) d_Ma_value_41) (rSi d_Ma_value_42 rfl) d_Ma_value_45)) d_Ma_value_46 (by decide)) (sIe (pn := 286) (tt := 60) (ff := 118) (xC (rOr (mm := 54) (rJ2 (tgt := 60) j_eq (rIl d_Ma_value_48) (rI d_Ma_value_50 rfl) d_Ma_value_51 (by decide)) (rNot (rJ2 (tgt := 118) j_ne (rIl d_Ma_value_54) (rI d_Ma_value_56 rfl) d_Ma_value_57 (by decide))))) (sS (p1 := 87) (sIf (pn := 87) (tt := 82) (xC (rOr (mm := 69) (rJ2 (tgt := 82) j_ge (r2 o_add (rIl d_Ma_value_60) (rI d_Ma_value_62 rfl) d_Ma_value_63) (rB d_Ma_value_64 rfl) d_Ma_value_66 (by decide)) (rAnd (mm := 75) (rNot (rJ2 (tgt := 87) j_ne (rIl d_Ma_value_69) (rI d_Ma_value_71 rfl) d_Ma_value_72 (by decide))) (rNot (rJ2 (tgt := 87) j_lt (rIl d_Ma_value_75) (rB d_Ma_value_77 rfl) d_Ma_value_79 (by decide)))))) (sRi (xV lv_Ma_22 (xA (rAr rA0 (rAn 0 d_Ma_value_82 rfl))) (by decide) d_Ma_value_83) d_Ma_value_86 rfl)) (sS (p1 := 90) (sInc d_Ma_value_87 (by decide)) (sGo (pn := 286) (sAs (rFr fl_Ma_15 nk_3_1 (rAn 0 d_Ma_value_90 rfl) d_Ma_value_91) (rIl d_Ma_value_94) (xE (rT2 (rNot (rJ2 (tgt := 107) j_ne (rIl d_Ma_value_96) (rI d_Ma_value_98 rfl) d_Ma_value_99 (by decide))) (rGoE (p2 := 114) (rIl d_Ma_value_102) d_Ma_value_104 (by decide)) (rIa (rFr fl_Ma_9 nk_3_0 (rAn 0 d_Ma_value_107 rfl) d_Ma_value_108) (rIl d_Ma_value_111) d_Ma_value_113))) d_Ma_value_114) d_Ma_value_115 (by decide)))) (sIe (pn := 286) (tt := 123) (ff := 128) (xC (rNot (rJ1 (tgt := 128) k_ge (rIl d_Ma_value_118) d_Ma_value_120 (by decide)))) (sRi (xV lv_Ma_22 (xA (rAr rA0 (rAn 0 d_Ma_value_123 rfl))) (by decide) d_Ma_value_124) d_Ma_value_127 rfl) (sIe (pn := 286) (tt := 134) (ff := 153) (xC (rNot (rJ2 (tgt := 153) j_ne (rIl d_Ma_value_128) (rI d_Ma_value_130 rfl) d_Ma_value_131 (by decide)))) (sGo (pn := 286) (sAs (rFr fl_Ma_15 nk_3_1 (rAn 0 d_Ma_value_134 rfl) d_Ma_value_135) (rIl d_Ma_value_138) (xE (r2 o_sub (rI d_Ma_value_140 rfl) (rIa (rFr fl_Ma_15 nk_3_1 (rAn 0 d_Ma_value_141 rfl) d_Ma_value_142) (rIl d_Ma_value_145) d_Ma_value_147) d_Ma_value_148)) d_Ma_value_149) d_Ma_value_150 (by decide)) (sIe (pn := 286) (tt := 165) (ff := 214) (xC (rOr (mm := 159) (rJ2 (tgt := 165) j_eq (rIl d_Ma_value_153) (rI d_Ma_value_155 rfl) d_Ma_value_156 (by decide)) (rNot (rJ2 (tgt := 214) j_ne (rIl d_Ma_value_159) (rI d_Ma_value_161 rfl) d_Ma_value_162 (by decide))))) (sIe (pn := 286) (tt := 194) (ff := 208) (xC (rNot (rJ2 (tgt := 208) j_ne (rTb (rNot (rJ1 (tgt := 179) k_eq (rIa (rFr fl_Ma_15 nk_3_1 (rAn 0 d_Ma_value_165 rfl) d_Ma_value_166) (rIl d_Ma_value_169) d_Ma_value_171) d_Ma_value_172 (by decide))) (rGoE (p2 := 180) (rI d_Ma_value_175 rfl) d_Ma_value_176 (by decide)) (rI d_Ma_value_179 rfl)) (rTb (rNot (rJ2 (tgt := 190) j_ne (rIl d_Ma_value_180) (rI d_Ma_value_182 rfl) d_Ma_value_183 (by decide))) (rGoE (p2 := 191) (rI d_Ma_value_186 rfl) d_Ma_value_187 (by decide)) (rI d_Ma_value_190 rfl)) d_Ma_value_191 (by decide)))) (sGo (pn := 286) (sI (xE (rMax km_Ma_26 (rIl d_Ma_value_194) (r2 o_sub (rIl d_Ma_value_196) (rI d_Ma_value_198 rfl) d_Ma_value_199) (by decide) (Nat.le_trans (Nat.le_of_ble_eq_true rfl) hd) d_Ma_value_200)) d_Ma_value_203 (by decide)) d_Ma_value_205 (by decide)) (sGo (pn := 286) (sInc d_Ma_value_208 (by decide)) d_Ma_value_211 (by decide))) (sS (p1 := 225) (sIf (pn := 225) (tt := 220) (xC (rNot (rJ2 (tgt := 225) j_ge (rIl d_Ma_value_214) (rI d_Ma_value_216 rfl) d_Ma_value_217 (by decide)))) (sRi (xV lv_Ma_22 (xA (rAr rA0 (rAn 0 d_Ma_value_220 rfl))) (by decide) d_Ma_value_221) d_Ma_value_224 rfl)) (sS (p1 := 250) (sL (xSL ls_Ma_32 (xA (rAL (rAL (rAi rA0 (rIl d_Ma_value_225)) (rI2L (rIa (rFr fl_Ma_15 nk_3_1 (rAn 0 d_Ma_value_227 rfl) d_Ma_value_228) (r2 o_sub (rIl d_Ma_value_231) (rI d_Ma_value_233 rfl) d_Ma_value_234) d_Ma_value_235) d_Ma_value_236)) (rI2L (rIa (rFr fl_Ma_15 nk_3_1 (rAn 0 d_Ma_value_237 rfl) d_Ma_value_238) (rIl d_Ma_value_241) d_Ma_value_243) d_Ma_value_244))) (by decide) d_Ma_value_245) d_Ma_value_248 (by decide)) (sS (p1 := 273) (sIf (pn := 273) (tt := 268) (xC (rOr (mm := 259) (rJ1 (tgt := 268) k_gt (rCmp (rLl d_Ma_value_250) (rL2 kl_Ma_36 d_Ma_value_252 rfl) d_Ma_value_255) d_Ma_value_256 (by decide)) (rNot (rJ1 (tgt := 273) k_ge (rCmp (rLl d_Ma_value_259) (rL2 kl_Ma_38 d_Ma_value_261 rfl) d_Ma_value_264) d_Ma_value_265 (by decide))))) (sRi (xV lv_Ma_22 (xA (rAr rA0 (rAn 0 d_Ma_value_268 rfl))) (by decide) d_Ma_value_269) d_Ma_value_272 rfl)) (sS (p1 := 276) (sInc d_Ma_value_273 (by decide)) (sAs (rFr fl_Ma_15 nk_3_1 (rAn 0 d_Ma_value_276 rfl) d_Ma_value_277) (rIl d_Ma_value_280) (xE (rL2I (rLl d_Ma_value_282) d_Ma_value_284)) d_Ma_value_285))))))))))) (sGo (pn := 11) (sInc d_Ma_value_286 (by decide)) d_Ma_value_289 (by decide)))) (sRi (xT2 (xC (rNot (rJ1 (tgt := 307) k_lt (rIl d_Ma_value_292) d_Ma_value_294 (by decide)))) (xE (rGoE (p2 := 311) (rIa (rFr fl_Ma_15 nk_3_1 (rAn 0 d_Ma_value_297 rfl) d_Ma_value_298) (rIl d_Ma_value_301) d_Ma_value_303) d_Ma_value_304 (by decide))) (xV lv_Ma_22 (xA (rAr rA0 (rAn 0 d_Ma_value_307 rfl))) (by decide) d_Ma_value_308)) d_Ma_value_311 rfl)))))
theorem q_Ma_value {d : Nat} (hd : 4 ≤ d) {μ : zMem} {P : Nat} {a b : Int} (hP : zkd P = 0 ∧ zln P = 385 ∧ P < 325) (hab : 0 ≤ a ∧ a ≤ 385 ∧ 0 ≤ b ∧ b ≤ 385) (hp : ∀ i : Int, a ≤ i → i < b → 0 ≤ μ P i ∧ μ P i ≤ 1000000) (hw : ∀ i : Int, 0 ≤ i → i < 60 → okV (μ 326 i)) : zSp d 0 0 y_Ma_value zT0 [vr 325, vr P, vi a, vi b] μ zT0 (fun r μ' => r = some (vi ((mRf (μ P) (μ 326) b.toNat a.toNat []).getD 0)) ∧ μ' 325 2 = (if mRf (μ P) (μ 326) b.toNat a.toNat [] = none then 1 else 0) ∧ zfc [325, 327] μ μ') := by
  refine zSp.ss [vr 325, vr P, vi a, vi b, vx 0, vx 0, vx 0, vx 0, vx 0, vx 0] rfl (w_Ma_value (Nat.le_trans (by decide) hd)) rfl rfl ?_
  (try simp only [zit_e, Bool.and_eq_true, Bool.or_eq_true, Bool.not_eq_true', Bool.and_eq_false_iff, Bool.or_eq_false_iff, Bool.not_eq_false', zbe, zdt, zdf, zb2_p, zbp_0, zbp_1, zbp_inj, zbp_01, Bool.true_eq_false, Bool.false_eq_true, true_and, and_true, Decidable.not_not, Classical.not_not, implies_true, List.nil_append, List.cons_append, List.append_assoc, Option.some.injEq, Sum.inl.injEq, zSw_c, zSw_n]); (try simp only [zit_e, Bool.and_eq_true, Bool.or_eq_true, Bool.not_eq_true', Bool.and_eq_false_iff, Bool.or_eq_false_iff, Bool.not_eq_false', zbe, zdt, zdf, zb2_p, zbp_0, zbp_1, zbp_inj, zbp_01, Bool.true_eq_false, Bool.false_eq_true, true_and, and_true, Decidable.not_not, Classical.not_not, implies_true, List.nil_append, List.cons_append, List.append_assoc, Option.some.injEq, Sum.inl.injEq, zSw_c, zSw_n, zc_325, hP.1, hP.2.1]); (try simp only [zi_cs, zi_c0, zii_cs, zii_c0, zl_cs, zl_c0, zll_cs, zll_c0, zr_cs, zr_c0, zrr_cs, zrr_c0, zxs_cs, zxs_c0, zxx_cs, zxx_c0, zfree_c0, zfree_c1, zfree_cs, zfree_cz, zlong_i, zlong_r, zlong_x, zset_0, zset_s, true_and, and_true, Option.some.injEq, Sum.inl.injEq, Sum.inr.injEq, zb2_p, zbp_0, zbp_1, zbp_inj, zbp_01, Nat.zero_add, Nat.reduceAdd, implies_true, List.nil_append, List.cons_append, List.append_assoc, Int.not_lt, Int.not_le, Decidable.not_not, Int.zero_add, Int.reduceLE, Int.reduceLT, Int.reduceEq, Int.reduceNe, Int.reduceAdd, Int.reduceSub, Int.reduceMul, Int.reduceNeg, Int.reduceToNat, Nat.reduceMul, Nat.reduceLT, Nat.reduceEqDiff, and_self, ite_true, ite_false, zx1, zx2, zRecv, List.length_cons, List.length_nil, ne_eq, not_true_eq_false, not_false_eq_true, true_or, or_true, or_false, false_or, and_false, false_and, zf01, zf10, reduceCtorEq, zSw_c, zSw_n, zm_r, zit_T, zit_F, false_implies, true_implies, zc_325, hP.1, hP.2.1])
  generalize hT : mRf (μ P) (μ 326) b.toNat a.toNat [] = T
  refine zLoop.mk (fun m ρ μ1 => ∃ (n c : Nat) (x6 x7 x8 x9 : zV), ρ = [vr 325, vr P, vi a, vi b, vi (n - 1), vi c, x6, x7, x8, x9] ∧ m = b.toNat - c ∧ n ≤ 64 ∧ (a ≤ (c : Int) ∧ c ≤ 5000) ∧ (∀ i : Int, 0 ≤ i → i < n → okV (μ1 327 i)) ∧ μ1 325 2 = 0 ∧ zfc [325, 327] μ μ1 ∧ T = mRf (μ P) (μ 326) b.toNat c (stk μ1 n)) (b.toNat - a.toNat) ⟨0, a.toNat, vx 0, vx 0, vx 0, vx 0, ?_, rfl, by decide, by omega, fun i h0 h1 => by omega, zm_s, zfc.rf.zm (by decide), hT.symm⟩ ?_
  · rw [show ((a.toNat : Nat) : Int) = a by omega]
    rfl
  rintro m ρ μ1 ⟨n, c, x6, x7, x8, x9, rfl, rfl, hn, hc, hok, hbr, hf, hT2⟩
  have hPk : μ1 P = μ P := hf P (by simp only [List.mem_cons, List.not_mem_nil, or_false]; omega)
  have hWk : μ1 326 = μ 326 := hf 326 (by decide)
  (try simp only [zit_e, Bool.and_eq_true, Bool.or_eq_true, Bool.not_eq_true', Bool.and_eq_false_iff, Bool.or_eq_false_iff, Bool.not_eq_false', zbe, zdt, zdf, zb2_p, zbp_0, zbp_1, zbp_inj, zbp_01, Bool.true_eq_false, Bool.false_eq_true, true_and, and_true, Decidable.not_not, Classical.not_not, implies_true, List.nil_append, List.cons_append, List.append_assoc, Option.some.injEq, Sum.inl.injEq, zSw_c, zSw_n]); (try simp only [zit_e, Bool.and_eq_true, Bool.or_eq_true, Bool.not_eq_true', Bool.and_eq_false_iff, Bool.or_eq_false_iff, Bool.not_eq_false', zbe, zdt, zdf, zb2_p, zbp_0, zbp_1, zbp_inj, zbp_01, Bool.true_eq_false, Bool.false_eq_true, true_and, and_true, Decidable.not_not, Classical.not_not, implies_true, List.nil_append, List.cons_append, List.append_assoc, Option.some.injEq, Sum.inl.injEq, zSw_c, zSw_n, zc_325, hP.1, hP.2.1]); (try simp only [zi_cs, zi_c0, zii_cs, zii_c0, zl_cs, zl_c0, zll_cs, zll_c0, zr_cs, zr_c0, zrr_cs, zrr_c0, zxs_cs, zxs_c0, zxx_cs, zxx_c0, zfree_c0, zfree_c1, zfree_cs, zfree_cz, zlong_i, zlong_r, zlong_x, zset_0, zset_s, true_and, and_true, Option.some.injEq, Sum.inl.injEq, Sum.inr.injEq, zb2_p, zbp_0, zbp_1, zbp_inj, zbp_01, Nat.zero_add, Nat.reduceAdd, implies_true, List.nil_append, List.cons_append, List.append_assoc, Int.not_lt, Int.not_le, Decidable.not_not, Int.zero_add, Int.reduceLE, Int.reduceLT, Int.reduceEq, Int.reduceNe, Int.reduceAdd, Int.reduceSub, Int.reduceMul, Int.reduceNeg, Int.reduceToNat, Nat.reduceMul, Nat.reduceLT, Nat.reduceEqDiff, and_self, ite_true, ite_false, zx1, zx2, zRecv, List.length_cons, List.length_nil, ne_eq, not_true_eq_false, not_false_eq_true, true_or, or_true, or_false, false_or, and_false, false_and, zf01, zf10, reduceCtorEq, zSw_c, zSw_n, zm_r, zit_T, zit_F, false_implies, true_implies, zc_325, hP.1, hP.2.1])
  rw [hPk, hWk]
  refine zif (fun c1 => ?_) (fun c1 => ?_)
  · have hpc := hp c (by omega) (by omega)
    rw [(zop_e hpc).1, (zop_e hpc).2]
    rw [mRf_s (show c < b.toNat by omega)] at hT2
    unfold mSt at hT2
    rw [stk_len] at hT2
    have hg : (0 ≤ μ P (c : Int) % 4096 ∧ μ P (c : Int) % 4096 < 4096) ∧ 0 ≤ μ P (c : Int) / 4096 := by omega
    generalize μ P (c : Int) / 4096 = o at *
    generalize μ P (c : Int) % 4096 = g at *
    have brk : T = none → zCw d y_Ma_breakOff [vr 325] μ1 (fun q μ2 => ∃ n, q = some (vi n) ∧ n = T.getD 0 ∧ μ2 325 2 = zit (T = none) 1 0 ∧ zfc [325, 327] μ μ2) := fun hn => zCw.use (q_Ma_breakOff (d := 1) (by decide)) (by omega) (fun q μ' e => by
      obtain ⟨rfl, rfl⟩ := e
      exact ⟨0, rfl, by rw [hn]; rfl, by rw [zm_s, zit_t hn], hf.zm (by decide)⟩)
    refine ⟨by omega, by omega, ?_⟩
    refine zif (fun e => ?_) (fun e => ?_)
    · rw [if_pos e] at hT2
      refine ⟨zI_s (by omega) (by omega), ?_⟩
      refine zif (fun e2 => ?_) (fun e2 => ?_)
      · rw [if_pos (by omega)] at hT2
        exact brk hT2
      · rw [if_neg (by omega)] at hT2
        refine ⟨zI_s (by omega) (by omega), by omega, by omega, fun q => by omega, zI_s (by omega) (by omega), _, (show b.toNat - (c + 1) < b.toNat - c by omega), n + 1, c + 1, vi o, vi g, x8, x9, ?_, rfl, by omega, by omega, fun i h0 h1 => ?_, hbr, hf.zm (by decide), ?_⟩
        · rw [show (n : Int) - 1 + 1 = ((n + 1 : Nat) : Int) - 1 by omega, show (c : Int) + 1 = ((c + 1 : Nat) : Int) by omega]
        · by_cases q : i = (n : Int) - 1 + 1
          · rw [zit_t q]
            by_cases q2 : o = 1
            · rw [zit_t q2]
              exact ⟨by omega, by omega⟩
            · rw [zit_f q2]
              exact hw g (by omega) (by omega)
          · rw [zit_f q]
            exact hok i h0 (by omega)
        · rw [hT2, stk_s, zm_r, zit_t rfl, zit_t (by omega), zit_e, stk_zm (by omega)]
    rw [if_neg e] at hT2
    refine zif (fun e2 => ?_) (fun e2 => ?_)
    · have hn0 : n = 0 := by omega
      subst hn0
      exact brk hT2
    obtain ⟨n, rfl⟩ : ∃ k, n = k + 1 := ⟨n - 1, by omega⟩
    rw [stk_s] at hT2
    dsimp only at hT2
    have en : ((n + 1 : Nat) : Int) - 1 = n := by omega
    have hx : okV (μ1 327 n) := hok n (by omega) (by omega)
    rw [en]
    refine zif (fun e3 => ?_) (fun e3 => ?_)
    · rw [if_pos e3] at hT2
      unfold okV at hx
      refine ⟨by omega, by omega, ⟨by omega, by ((try simp only [zI_e]); (first | done | omega | skip))⟩, by ((try simp only [zI_e]); (first | done | omega | skip)), _, (show b.toNat - (c + 1) < b.toNat - c by omega), n + 1, c + 1, vi o, vi g, x8, x9, ?_, rfl, by omega, by omega, fun i h0 h1 => ?_, hbr, hf.zm (by decide), ?_⟩
      · rw [en, show (c : Int) + 1 = ((c + 1 : Nat) : Int) by omega]
      · by_cases q : i = (n : Int)
        · rw [zit_t q]
          exact ⟨by omega, by omega⟩
        · rw [zit_f q]
          exact hok i h0 (by omega)
      · rw [hT2, stk_s, zm_r, zit_t rfl, zit_t rfl, stk_zm (by omega)]
    rw [if_neg e3] at hT2
    refine zif (fun e4 => ?_) (fun e4 => ?_)
    · rw [if_pos e4] at hT2
      refine ⟨by omega, ?_⟩
      refine zif (fun e5 => ?_) (fun e5 => ?_)
      · rw [if_pos e5] at hT2
        refine ⟨zI_s (by omega) (by omega), zI_s (by omega) (by omega), _, (show b.toNat - max (c + 1) g.toNat < b.toNat - c by omega), n + 1, max (c + 1) g.toNat, vi o, vi g, x8, x9, ?_, rfl, by omega, by omega, fun i h0 h1 => hok i h0 h1, hbr, hf, ?_⟩
        · rw [en, show max (c : Int) (g - 1) + 1 = ((max (c + 1) g.toNat : Nat) : Int) by omega]
        · rw [hT2, stk_s]
      · rw [if_neg e5] at hT2
        refine ⟨zI_s (by omega) (by omega), zI_s (by omega) (by omega), _, (show b.toNat - (c + 1) < b.toNat - c by omega), n, c + 1, vi o, vi g, x8, x9, ?_, rfl, by omega, by omega, fun i h0 h1 => hok i h0 (by omega), hbr, hf, hT2⟩
        rw [show (n : Int) + -1 = (n : Int) - 1 by omega, show (c : Int) + 1 = ((c + 1 : Nat) : Int) by omega]
    rw [if_neg e4] at hT2
    refine zif (fun e5 => ?_) (fun e5 => ?_)
    · have hn0 : n = 0 := by omega
      subst hn0
      exact brk hT2
    obtain ⟨n, rfl⟩ : ∃ k, n = k + 1 := ⟨n - 1, by omega⟩
    rw [stk_s] at hT2
    dsimp only at hT2
    have en2 : ((n + 1 : Nat) : Int) - 1 = n := by omega
    have en3 : ((n + 1 : Nat) : Int) + -1 = n := by omega
    have hy : okV (μ1 327 n) := hok n (by omega) (by omega)
    rw [en2, en3]
    refine ⟨by ((try simp only [zI_e]); (first | done | omega | skip)), zCw.use (q_Ma_join (d := 1) (by decide) hy hx) (by omega) (fun q μ2 e6 => ?_)⟩
    obtain ⟨rfl, rfl⟩ := e6
    rw [opV_jn hy hx] at hT2
    refine ⟨_, rfl, ?_⟩
    generalize jn o (μ2 327 n) (μ2 327 ((n + 1 : Nat) : Int)) = z at *
    have z1 : (0 < zcmp z 1000000000) ↔ 1000000000 < z := by
      unfold zcmp
      repeat' split
      all_goals omega
    have z2 : (zcmp z (-1000000000) < 0) ↔ z < -1000000000 := by
      unfold zcmp
      repeat' split
      all_goals omega
    refine zif (fun e7 => ?_) (fun e7 => ?_)
    · rw [z1, z2] at e7
      rw [if_pos (by omega)] at hT2
      exact brk hT2
    · rw [z1, z2] at e7
      rw [if_neg (by omega), ob_s] at hT2
      refine ⟨zI_s (by omega) (by omega), by omega, by omega, zI_s (by omega) (by omega), zI_s (by omega) (by omega), _, (show b.toNat - (c + 1) < b.toNat - c by omega), n + 1, c + 1, vi o, vi g, vl z, vx 0, ?_, rfl, by omega, by omega, fun i h0 h1 => ?_, hbr, hf.zm (by decide), ?_⟩
      · rw [en2, show (c : Int) + 1 = ((c + 1 : Nat) : Int) by omega]
      · by_cases q : i = (n : Int)
        · rw [zit_t q]
          exact ⟨by omega, by omega⟩
        · rw [zit_f q]
          exact hok i h0 (by omega)
      · rw [hT2, stk_s, zm_r, zit_t rfl, zit_t rfl, stk_zm (by omega)]
  · rw [mRf_e (show b.toNat ≤ c by omega)] at hT2
    refine zif (fun e => ?_) (fun e => ?_)
    · obtain ⟨n, rfl⟩ : ∃ k, n = k + 1 := ⟨n - 1, by omega⟩
      rw [stk_s] at hT2
      have en : ((n + 1 : Nat) : Int) - 1 = n := by omega
      rw [en]
      have hT3 : T = some (μ1 327 n) := hT2
      refine ⟨by omega, by rw [hT3]; rfl, by rw [hbr, zit_f (by rw [hT3]; simp)], hf⟩
    · have hn0 : n = 0 := by omega
      subst hn0
      have hn : T = none := hT2
      exact zCw.use (q_Ma_breakOff (d := 1) (by decide)) (by omega) (fun q μ' e => by
        obtain ⟨rfl, rfl⟩ := e
        exact ⟨0, rfl, by rw [hn]; rfl, by rw [zm_s, zit_t hn], hf.zm (by decide)⟩)

