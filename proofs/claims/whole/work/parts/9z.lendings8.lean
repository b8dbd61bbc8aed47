/-! lendings: the joint -/
theorem toS_t {L : List D4} : ∀ i : Nat, i ≤ L.length → toS (L.take i) + (if h : i < L.length then (dfV L i).2.2.1 else 0) = toS (L.take (i + 1))
  | i, hi => by
    split
    · next h =>
      have e : L.take (i + 1) = L.take i ++ [dfV L i] := by
        have := List.take_succ (l := L) (i := i)
        rw [this]
        congr 1
        have q := dfV_m (V := L) (k := i) (by omega) (by omega)
        rw [Int.toNat_natCast] at q
        rw [q]
        rfl
      rw [e, toS_app]
    · next h =>
      have : i = L.length := by omega
      subst this
      rw [Int.add_zero, List.take_length, List.take_of_length_le (by omega)]
theorem m_M_listsLendings : Cond.instanceMethod y_M_listsLendings.1 ∈ zTb ∧ Cond.selects y_M_listsLendings.1.cls y_M_listsLendings.1 y_M_listsLendings.1 ∈ zTb ∧ Cond.initialized y_M_listsLendings.1.cls ∈ zTb ∧ Cond.code y_M_listsLendings.1 y_M_listsLendings.2.1 y_M_listsLendings.2.2.1 y_M_listsLendings.2.2.2 ∈ zTb ∧ (y_M_listsLendings.1.cls ≠ "java/lang/invoke/MethodHandle" ∧ y_M_listsLendings.1.cls ≠ "java/lang/invoke/VarHandle" ∧ (parseMethodDescriptor y_M_listsLendings.1.desc).map (fun d => d.parameters.length) = some 0) ∧ y_M_listsLendings.2.2.1 ≤ 20 :=
  ⟨(zTb_in 1928 (by decide +kernel) (by decide +kernel)), (List.mem_filter.mpr ⟨List.mem_append_left _ (by decide +kernel), by decide +kernel⟩), (zTb_in 152 (by decide +kernel) (by decide +kernel)), (zTb_in 1929 (by decide +kernel) (by decide +kernel)), by decide +kernel, by decide +kernel⟩
theorem lv_M_412 : zLv "DebtDoorsModel" 412 y_M_listsLendings 0 12 := ⟨⟨(zTb_in 1926 (by decide +kernel) (by decide +kernel)), m_M_listsLendings.1, m_M_listsLendings.2.1, m_M_listsLendings.2.2⟩, _, rfl, rfl⟩
theorem nk_12_33 : zNk 12 33 = none := rfl
theorem m_M_mayLend : Cond.instanceMethod y_M_mayLend.1 ∈ zTb ∧ Cond.selects y_M_mayLend.1.cls y_M_mayLend.1 y_M_mayLend.1 ∈ zTb ∧ Cond.initialized y_M_mayLend.1.cls ∈ zTb ∧ Cond.code y_M_mayLend.1 y_M_mayLend.2.1 y_M_mayLend.2.2.1 y_M_mayLend.2.2.2 ∈ zTb ∧ (y_M_mayLend.1.cls ≠ "java/lang/invoke/MethodHandle" ∧ y_M_mayLend.1.cls ≠ "java/lang/invoke/VarHandle" ∧ (parseMethodDescriptor y_M_mayLend.1.desc).map (fun d => d.parameters.length) = some 2) ∧ y_M_mayLend.2.2.1 ≤ 20 :=
  ⟨(zTb_in 1936 (by decide +kernel) (by decide +kernel)), (List.mem_filter.mpr ⟨List.mem_append_left _ (by decide +kernel), by decide +kernel⟩), (zTb_in 152 (by decide +kernel) (by decide +kernel)), (zTb_in 1937 (by decide +kernel) (by decide +kernel)), by decide +kernel, by decide +kernel⟩
theorem lv_M_415 : zLv "DebtDoorsModel" 415 y_M_mayLend 2 12 := ⟨⟨(zTb_in 1934 (by decide +kernel) (by decide +kernel)), m_M_mayLend.1, m_M_mayLend.2.1, m_M_mayLend.2.2⟩, _, rfl, rfl⟩
def y_M_lendings : zMt := (⟨"DebtDoorsModel", "lendings", "(I)I"⟩, prog_14_method_111_code, 7, some .int)
theorem d_M_lendings_0 : decode prog_14_method_111_code 0 = .ok (.aload_n 0, 1) := by decide +kernel
theorem d_M_lendings_1 : decode prog_14_method_111_code 1 = .ok (.invokevirtual 412, 3) := by decide +kernel
theorem d_M_lendings_4 : decode prog_14_method_111_code 4 = .ok (.ifCond .eq 17, 3) := by decide +kernel
theorem d_M_lendings_7 : decode prog_14_method_111_code 7 = .ok (.iload_n 1, 1) := by decide +kernel
theorem d_M_lendings_8 : decode prog_14_method_111_code 8 = .ok (.iconst 0, 1) := by decide +kernel
theorem d_M_lendings_9 : decode prog_14_method_111_code 9 = .ok (.iconst 2, 1) := by decide +kernel
theorem d_M_lendings_10 : decode prog_14_method_111_code 10 = .ok (.aload_n 0, 1) := by decide +kernel
theorem d_M_lendings_11 : decode prog_14_method_111_code 11 = .ok (.getfield 400, 3) := by decide +kernel
theorem d_M_lendings_14 : decode prog_14_method_111_code 14 = .ok (.iadd, 1) := by decide +kernel
theorem d_M_lendings_15 : decode prog_14_method_111_code 15 = .ok (.invokestatic 123, 3) := by decide +kernel
theorem d_M_lendings_18 : decode prog_14_method_111_code 18 = .ok (.ifCond .ne 5, 3) := by decide +kernel
theorem d_M_lendings_21 : decode prog_14_method_111_code 21 = .ok (.iconst (-1), 1) := by decide +kernel
theorem d_M_lendings_22 : decode prog_14_method_111_code 22 = .ok (.ireturn, 1) := by decide +kernel
theorem d_M_lendings_23 : decode prog_14_method_111_code 23 = .ok (.iconst 0, 1) := by decide +kernel
theorem d_M_lendings_24 : decode prog_14_method_111_code 24 = .ok (.istore_n 2, 1) := by decide +kernel
theorem d_M_lendings_25 : decode prog_14_method_111_code 25 = .ok (.iconst 1, 1) := by decide +kernel
theorem d_M_lendings_26 : decode prog_14_method_111_code 26 = .ok (.aload_n 0, 1) := by decide +kernel
theorem d_M_lendings_27 : decode prog_14_method_111_code 27 = .ok (.getfield 400, 3) := by decide +kernel
theorem d_M_lendings_30 : decode prog_14_method_111_code 30 = .ok (.ishl, 1) := by decide +kernel
theorem d_M_lendings_31 : decode prog_14_method_111_code 31 = .ok (.iconst 1, 1) := by decide +kernel
theorem d_M_lendings_32 : decode prog_14_method_111_code 32 = .ok (.isub, 1) := by decide +kernel
theorem d_M_lendings_33 : decode prog_14_method_111_code 33 = .ok (.istore_n 3, 1) := by decide +kernel
theorem d_M_lendings_34 : decode prog_14_method_111_code 34 = .ok (.iconst 0, 1) := by decide +kernel
theorem d_M_lendings_35 : decode prog_14_method_111_code 35 = .ok (.istore 4, 2) := by decide +kernel
theorem d_M_lendings_37 : decode prog_14_method_111_code 37 = .ok (.iload 4, 2) := by decide +kernel
theorem d_M_lendings_39 : decode prog_14_method_111_code 39 = .ok (.aload_n 0, 1) := by decide +kernel
theorem d_M_lendings_40 : decode prog_14_method_111_code 40 = .ok (.getfield 400, 3) := by decide +kernel
theorem d_M_lendings_43 : decode prog_14_method_111_code 43 = .ok (.if_icmp .ge 19, 3) := by decide +kernel
theorem d_M_lendings_46 : decode prog_14_method_111_code 46 = .ok (.iload_n 2, 1) := by decide +kernel
theorem d_M_lendings_47 : decode prog_14_method_111_code 47 = .ok (.aload_n 0, 1) := by decide +kernel
theorem d_M_lendings_48 : decode prog_14_method_111_code 48 = .ok (.getfield 77, 3) := by decide +kernel
theorem d_M_lendings_51 : decode prog_14_method_111_code 51 = .ok (.iload 4, 2) := by decide +kernel
theorem d_M_lendings_53 : decode prog_14_method_111_code 53 = .ok (.iaload, 1) := by decide +kernel
theorem d_M_lendings_54 : decode prog_14_method_111_code 54 = .ok (.iadd, 1) := by decide +kernel
theorem d_M_lendings_55 : decode prog_14_method_111_code 55 = .ok (.istore_n 2, 1) := by decide +kernel
theorem d_M_lendings_56 : decode prog_14_method_111_code 56 = .ok (.iinc 4 1, 3) := by decide +kernel
theorem d_M_lendings_59 : decode prog_14_method_111_code 59 = .ok (.goto (-22), 3) := by decide +kernel
theorem d_M_lendings_62 : decode prog_14_method_111_code 62 = .ok (.iload_n 3, 1) := by decide +kernel
theorem d_M_lendings_63 : decode prog_14_method_111_code 63 = .ok (.istore 4, 2) := by decide +kernel
theorem d_M_lendings_65 : decode prog_14_method_111_code 65 = .ok (.iload 4, 2) := by decide +kernel
theorem d_M_lendings_67 : decode prog_14_method_111_code 67 = .ok (.ifCond .lt 82, 3) := by decide +kernel
theorem d_M_lendings_70 : decode prog_14_method_111_code 70 = .ok (.aload_n 0, 1) := by decide +kernel
theorem d_M_lendings_71 : decode prog_14_method_111_code 71 = .ok (.getfield 83, 3) := by decide +kernel
theorem d_M_lendings_74 : decode prog_14_method_111_code 74 = .ok (.iload 4, 2) := by decide +kernel
theorem d_M_lendings_76 : decode prog_14_method_111_code 76 = .ok (.iload 4, 2) := by decide +kernel
theorem d_M_lendings_78 : decode prog_14_method_111_code 78 = .ok (.iload_n 3, 1) := by decide +kernel
theorem d_M_lendings_79 : decode prog_14_method_111_code 79 = .ok (.if_icmp .ne 7, 3) := by decide +kernel
theorem d_M_lendings_82 : decode prog_14_method_111_code 82 = .ok (.iconst 1, 1) := by decide +kernel
theorem d_M_lendings_83 : decode prog_14_method_111_code 83 = .ok (.goto 4, 3) := by decide +kernel
theorem d_M_lendings_86 : decode prog_14_method_111_code 86 = .ok (.iconst 0, 1) := by decide +kernel
theorem d_M_lendings_87 : decode prog_14_method_111_code 87 = .ok (.iastore, 1) := by decide +kernel
theorem d_M_lendings_88 : decode prog_14_method_111_code 88 = .ok (.iconst 0, 1) := by decide +kernel
theorem d_M_lendings_89 : decode prog_14_method_111_code 89 = .ok (.istore 5, 2) := by decide +kernel
theorem d_M_lendings_91 : decode prog_14_method_111_code 91 = .ok (.iload 5, 2) := by decide +kernel
theorem d_M_lendings_93 : decode prog_14_method_111_code 93 = .ok (.aload_n 0, 1) := by decide +kernel
theorem d_M_lendings_94 : decode prog_14_method_111_code 94 = .ok (.getfield 400, 3) := by decide +kernel
theorem d_M_lendings_97 : decode prog_14_method_111_code 97 = .ok (.if_icmp .ge 46, 3) := by decide +kernel
theorem d_M_lendings_100 : decode prog_14_method_111_code 100 = .ok (.aload_n 0, 1) := by decide +kernel
theorem d_M_lendings_101 : decode prog_14_method_111_code 101 = .ok (.getfield 83, 3) := by decide +kernel
theorem d_M_lendings_104 : decode prog_14_method_111_code 104 = .ok (.iload 4, 2) := by decide +kernel
theorem d_M_lendings_106 : decode prog_14_method_111_code 106 = .ok (.dup2, 1) := by decide +kernel
theorem d_M_lendings_107 : decode prog_14_method_111_code 107 = .ok (.iaload, 1) := by decide +kernel
theorem d_M_lendings_108 : decode prog_14_method_111_code 108 = .ok (.aload_n 0, 1) := by decide +kernel
theorem d_M_lendings_109 : decode prog_14_method_111_code 109 = .ok (.iload 4, 2) := by decide +kernel
theorem d_M_lendings_111 : decode prog_14_method_111_code 111 = .ok (.iload 5, 2) := by decide +kernel
theorem d_M_lendings_113 : decode prog_14_method_111_code 113 = .ok (.invokevirtual 415, 3) := by decide +kernel
theorem d_M_lendings_116 : decode prog_14_method_111_code 116 = .ok (.ifCond .eq 18, 3) := by decide +kernel
theorem d_M_lendings_119 : decode prog_14_method_111_code 119 = .ok (.aload_n 0, 1) := by decide +kernel
theorem d_M_lendings_120 : decode prog_14_method_111_code 120 = .ok (.getfield 83, 3) := by decide +kernel
theorem d_M_lendings_123 : decode prog_14_method_111_code 123 = .ok (.iload 4, 2) := by decide +kernel
theorem d_M_lendings_125 : decode prog_14_method_111_code 125 = .ok (.iconst 1, 1) := by decide +kernel
theorem d_M_lendings_126 : decode prog_14_method_111_code 126 = .ok (.iload 5, 2) := by decide +kernel
theorem d_M_lendings_128 : decode prog_14_method_111_code 128 = .ok (.ishl, 1) := by decide +kernel
theorem d_M_lendings_129 : decode prog_14_method_111_code 129 = .ok (.ior, 1) := by decide +kernel
theorem d_M_lendings_130 : decode prog_14_method_111_code 130 = .ok (.iaload, 1) := by decide +kernel
theorem d_M_lendings_131 : decode prog_14_method_111_code 131 = .ok (.goto 4, 3) := by decide +kernel
theorem d_M_lendings_134 : decode prog_14_method_111_code 134 = .ok (.iconst 0, 1) := by decide +kernel
theorem d_M_lendings_135 : decode prog_14_method_111_code 135 = .ok (.iadd, 1) := by decide +kernel
theorem d_M_lendings_136 : decode prog_14_method_111_code 136 = .ok (.iastore, 1) := by decide +kernel
theorem d_M_lendings_137 : decode prog_14_method_111_code 137 = .ok (.iinc 5 1, 3) := by decide +kernel
theorem d_M_lendings_140 : decode prog_14_method_111_code 140 = .ok (.goto (-49), 3) := by decide +kernel
theorem d_M_lendings_143 : decode prog_14_method_111_code 143 = .ok (.iinc 4 (-1), 3) := by decide +kernel
theorem d_M_lendings_146 : decode prog_14_method_111_code 146 = .ok (.goto (-81), 3) := by decide +kernel
theorem d_M_lendings_149 : decode prog_14_method_111_code 149 = .ok (.iload_n 1, 1) := by decide +kernel
theorem d_M_lendings_150 : decode prog_14_method_111_code 150 = .ok (.iconst 3, 1) := by decide +kernel
theorem d_M_lendings_151 : decode prog_14_method_111_code 151 = .ok (.if_icmp .ge 30, 3) := by decide +kernel
theorem d_M_lendings_154 : decode prog_14_method_111_code 154 = .ok (.iload_n 1, 1) := by decide +kernel
theorem d_M_lendings_155 : decode prog_14_method_111_code 155 = .ok (.ifCond .ne 10, 3) := by decide +kernel
theorem d_M_lendings_158 : decode prog_14_method_111_code 158 = .ok (.aload_n 0, 1) := by decide +kernel
theorem d_M_lendings_159 : decode prog_14_method_111_code 159 = .ok (.getfield 400, 3) := by decide +kernel
theorem d_M_lendings_162 : decode prog_14_method_111_code 162 = .ok (.goto 18, 3) := by decide +kernel
theorem d_M_lendings_165 : decode prog_14_method_111_code 165 = .ok (.iload_n 1, 1) := by decide +kernel
theorem d_M_lendings_166 : decode prog_14_method_111_code 166 = .ok (.iconst 1, 1) := by decide +kernel
theorem d_M_lendings_167 : decode prog_14_method_111_code 167 = .ok (.if_icmp .ne 7, 3) := by decide +kernel
theorem d_M_lendings_170 : decode prog_14_method_111_code 170 = .ok (.iload_n 2, 1) := by decide +kernel
theorem d_M_lendings_171 : decode prog_14_method_111_code 171 = .ok (.goto 9, 3) := by decide +kernel
theorem d_M_lendings_174 : decode prog_14_method_111_code 174 = .ok (.aload_n 0, 1) := by decide +kernel
theorem d_M_lendings_175 : decode prog_14_method_111_code 175 = .ok (.getfield 83, 3) := by decide +kernel
theorem d_M_lendings_178 : decode prog_14_method_111_code 178 = .ok (.iconst 0, 1) := by decide +kernel
theorem d_M_lendings_179 : decode prog_14_method_111_code 179 = .ok (.iaload, 1) := by decide +kernel
theorem d_M_lendings_180 : decode prog_14_method_111_code 180 = .ok (.ireturn, 1) := by decide +kernel
theorem d_M_lendings_181 : decode prog_14_method_111_code 181 = .ok (.aload_n 0, 1) := by decide +kernel
theorem d_M_lendings_182 : decode prog_14_method_111_code 182 = .ok (.getfield 83, 3) := by decide +kernel
theorem d_M_lendings_185 : decode prog_14_method_111_code 185 = .ok (.iconst 0, 1) := by decide +kernel
theorem d_M_lendings_186 : decode prog_14_method_111_code 186 = .ok (.iaload, 1) := by decide +kernel
theorem d_M_lendings_187 : decode prog_14_method_111_code 187 = .ok (.ifCond .ne 5, 3) := by decide +kernel
theorem d_M_lendings_190 : decode prog_14_method_111_code 190 = .ok (.iconst (-1), 1) := by decide +kernel
theorem d_M_lendings_191 : decode prog_14_method_111_code 191 = .ok (.ireturn, 1) := by decide +kernel
theorem d_M_lendings_192 : decode prog_14_method_111_code 192 = .ok (.iconst 0, 1) := by decide +kernel
theorem d_M_lendings_193 : decode prog_14_method_111_code 193 = .ok (.istore 4, 2) := by decide +kernel
theorem d_M_lendings_195 : decode prog_14_method_111_code 195 = .ok (.iconst 0, 1) := by decide +kernel
theorem d_M_lendings_196 : decode prog_14_method_111_code 196 = .ok (.istore 5, 2) := by decide +kernel
theorem d_M_lendings_198 : decode prog_14_method_111_code 198 = .ok (.iconst 3, 1) := by decide +kernel
theorem d_M_lendings_199 : decode prog_14_method_111_code 199 = .ok (.istore 6, 2) := by decide +kernel
theorem d_M_lendings_201 : decode prog_14_method_111_code 201 = .ok (.iload 6, 2) := by decide +kernel
theorem d_M_lendings_203 : decode prog_14_method_111_code 203 = .ok (.iload_n 1, 1) := by decide +kernel
theorem d_M_lendings_204 : decode prog_14_method_111_code 204 = .ok (.if_icmp .gt 53, 3) := by decide +kernel
theorem d_M_lendings_207 : decode prog_14_method_111_code 207 = .ok (.iconst 0, 1) := by decide +kernel
theorem d_M_lendings_208 : decode prog_14_method_111_code 208 = .ok (.istore 5, 2) := by decide +kernel
theorem d_M_lendings_210 : decode prog_14_method_111_code 210 = .ok (.aload_n 0, 1) := by decide +kernel
theorem d_M_lendings_211 : decode prog_14_method_111_code 211 = .ok (.iload 4, 2) := by decide +kernel
theorem d_M_lendings_213 : decode prog_14_method_111_code 213 = .ok (.iload 5, 2) := by decide +kernel
theorem d_M_lendings_215 : decode prog_14_method_111_code 215 = .ok (.invokevirtual 415, 3) := by decide +kernel
theorem d_M_lendings_218 : decode prog_14_method_111_code 218 = .ok (.ifCond .eq 18, 3) := by decide +kernel
theorem d_M_lendings_221 : decode prog_14_method_111_code 221 = .ok (.aload_n 0, 1) := by decide +kernel
theorem d_M_lendings_222 : decode prog_14_method_111_code 222 = .ok (.getfield 83, 3) := by decide +kernel
theorem d_M_lendings_225 : decode prog_14_method_111_code 225 = .ok (.iload 4, 2) := by decide +kernel
theorem d_M_lendings_227 : decode prog_14_method_111_code 227 = .ok (.iconst 1, 1) := by decide +kernel
theorem d_M_lendings_228 : decode prog_14_method_111_code 228 = .ok (.iload 5, 2) := by decide +kernel
theorem d_M_lendings_230 : decode prog_14_method_111_code 230 = .ok (.ishl, 1) := by decide +kernel
theorem d_M_lendings_231 : decode prog_14_method_111_code 231 = .ok (.ior, 1) := by decide +kernel
theorem d_M_lendings_232 : decode prog_14_method_111_code 232 = .ok (.iaload, 1) := by decide +kernel
theorem d_M_lendings_233 : decode prog_14_method_111_code 233 = .ok (.ifCond .ne 9, 3) := by decide +kernel
theorem d_M_lendings_236 : decode prog_14_method_111_code 236 = .ok (.iinc 5 1, 3) := by decide +kernel
theorem d_M_lendings_239 : decode prog_14_method_111_code 239 = .ok (.goto (-29), 3) := by decide +kernel
theorem d_M_lendings_242 : decode prog_14_method_111_code 242 = .ok (.iload 4, 2) := by decide +kernel
theorem d_M_lendings_244 : decode prog_14_method_111_code 244 = .ok (.iconst 1, 1) := by decide +kernel
theorem d_M_lendings_245 : decode prog_14_method_111_code 245 = .ok (.iload 5, 2) := by decide +kernel
theorem d_M_lendings_247 : decode prog_14_method_111_code 247 = .ok (.ishl, 1) := by decide +kernel
theorem d_M_lendings_248 : decode prog_14_method_111_code 248 = .ok (.ior, 1) := by decide +kernel
theorem d_M_lendings_249 : decode prog_14_method_111_code 249 = .ok (.istore 4, 2) := by decide +kernel
theorem d_M_lendings_251 : decode prog_14_method_111_code 251 = .ok (.iinc 6 1, 3) := by decide +kernel
theorem d_M_lendings_254 : decode prog_14_method_111_code 254 = .ok (.goto (-53), 3) := by decide +kernel
theorem d_M_lendings_257 : decode prog_14_method_111_code 257 = .ok (.aload_n 0, 1) := by decide +kernel
theorem d_M_lendings_258 : decode prog_14_method_111_code 258 = .ok (.getfield 80, 3) := by decide +kernel
theorem d_M_lendings_261 : decode prog_14_method_111_code 261 = .ok (.iload 5, 2) := by decide +kernel
theorem d_M_lendings_263 : decode prog_14_method_111_code 263 = .ok (.iaload, 1) := by decide +kernel
theorem d_M_lendings_264 : decode prog_14_method_111_code 264 = .ok (.ireturn, 1) := by decide +kernel
def w_M_lendings {d : Nat} (hd : 4 ≤ d) := (show SS ("DebtDoorsModel", prog_14_method_111_code, 7) (some .int) d 0 0 0 0 _ from (sS (p1 := 23) (sIf (pn := 23) (tt := 21) (xOr (mm := 7) (xNot (xNot (xJ1 (tgt := 21) k_eq (xV lv_M_412 (xA (rAr rA0 (rAn 0 d_M_lendings_0 rfl))) (by decide) d_M_lendings_1) d_M_lendings_4 (by decide)))) (xC (rNot (rJ1 (tgt := 23) k_ne (rS p_M_lies (Nat.le_trans (Nat.le_of_ble_eq_true rfl) hd) ls_M_123 (rAi (rAi (rAi rA0 (rIn 1 d_M_lendings_7 rfl)) (rI d_M_lendings_8 rfl)) (r2 o_add (rI d_M_lendings_9 rfl) (rF 34 fl_M_400 nk_12_34 (rAn 0 d_M_lendings_10 rfl) d_M_lendings_11 rfl) d_M_lendings_14)) (by decide) d_M_lendings_15) d_M_lendings_18 (by decide))))) (sRi (xE (rI d_M_lendings_21 rfl)) d_M_lendings_22 rfl)) (sS (p1 := 25) (sIn 2 (xE (rI d_M_lendings_23 rfl)) d_M_lendings_24 rfl (by decide)) (sS (p1 := 34) (sIn 3 (xE (r2 o_sub (r2 o_shl (rI d_M_lendings_25 rfl) (rF 34 fl_M_400 nk_12_34 (rAn 0 d_M_lendings_26 rfl) d_M_lendings_27 rfl) d_M_lendings_30) (rI d_M_lendings_31 rfl) d_M_lendings_32)) d_M_lendings_33 rfl (by decide)) (sS (p1 := 62) (sS (p1 := 37) (sI (xE (rI d_M_lendings_34 rfl)) d_M_lendings_35 (by decide)) (sLp (ps := 56) (tt := 46) (pn := 62) (p1 := 0) (p2 := 0) (xC (rNot (rJ2 (tgt := 62) j_ge (rIl d_M_lendings_37) (rF 34 fl_M_400 nk_12_34 (rAn 0 d_M_lendings_39 rfl) d_M_lendings_40 rfl) d_M_lendings_43 (by decide)))) (sIn 2 (xE (r2 o_add (rIn 2 d_M_lendings_46 rfl) (rIa (rFr fl_M_77 nk_12_31 (rAn 0 d_M_lendings_47 rfl) d_M_lendings_48) (rIl d_M_lendings_51) d_M_lendings_53) d_M_lendings_54)) d_M_lendings_55 rfl (by decide)) (sGo (pn := 37) (sInc d_M_lendings_56 (by decide)) d_M_lendings_59 (by decide)))) (sS (p1 := 149) (sS (p1 := 65) (sI (xE (rIn 3 d_M_lendings_62 rfl)) d_M_lendings_63 (by decide)) (sLp (ps := 143) (tt := 70) (pn := 149) (p1 := 0) (p2 := 0) (xC (rNot (rJ1 (tgt := 149) k_lt (rIl d_M_lendings_65) d_M_lendings_67 (by decide)))) (sS (p1 := 88) (sAs (rFr fl_M_83 nk_12_33 (rAn 0 d_M_lendings_70 rfl) d_M_lendings_71) (rIl d_M_lendings_74) (xE (rT2 (rNot (rJ2 (tgt := 86) j_ne (rIl d_M_lendings_76) (rIn 3 d_M_lendings_78 rfl) d_M_lendings_79 (by decide))) (rGoE (p2 := 87) (rI d_M_lendings_82 rfl) d_M_lendings_83 (by decide)) (rI d_M_lendings_86 rfl))) d_M_lendings_87) (sS (p1 := 91) (sI (xE (rI d_M_lendings_88 rfl)) d_M_lendings_89 (by decide)) (sLp (ps := 137) (tt := 100) (pn := 143) (p1 := 0) (p2 := 0) (xC (rNot (rJ2 (tgt := 143) j_ge (rIl d_M_lendings_91) (rF 34 fl_M_400 nk_12_34 (rAn 0 d_M_lendings_93 rfl) d_M_lendings_94 rfl) d_M_lendings_97 (by decide)))) (sAo o_add (rFr fl_M_83 nk_12_33 (rAn 0 d_M_lendings_100 rfl) d_M_lendings_101) (rIl d_M_lendings_104) d_M_lendings_106 d_M_lendings_107 (rT2 (rNot (rJ1 (tgt := 134) k_eq (rV p_M_mayLend (Nat.le_trans (Nat.le_of_ble_eq_true rfl) hd) lv_M_415 (rAi (rAi (rAr rA0 (rAn 0 d_M_lendings_108 rfl)) (rIl d_M_lendings_109)) (rIl d_M_lendings_111)) (by decide) d_M_lendings_113) d_M_lendings_116 (by decide))) (rGoE (p2 := 135) (rIa (rFr fl_M_83 nk_12_33 (rAn 0 d_M_lendings_119 rfl) d_M_lendings_120) (r2 o_or (rIl d_M_lendings_123) (r2 o_shl (rI d_M_lendings_125 rfl) (rIl d_M_lendings_126) d_M_lendings_128) d_M_lendings_129) d_M_lendings_130) d_M_lendings_131 (by decide)) (rI d_M_lendings_134 rfl)) d_M_lendings_135 d_M_lendings_136) (sGo (pn := 91) (sInc d_M_lendings_137 (by decide)) d_M_lendings_140 (by decide))))) (sGo (pn := 65) (sInc d_M_lendings_143 (by decide)) d_M_lendings_146 (by decide)))) (sS (p1 := 181) (sIf (pn := 181) (tt := 154) (xC (rNot (rJ2 (tgt := 181) j_ge (rIn 1 d_M_lendings_149 rfl) (rI d_M_lendings_150 rfl) d_M_lendings_151 (by decide)))) (sRi (xE (rT2 (rNot (rJ1 (tgt := 165) k_ne (rIn 1 d_M_lendings_154 rfl) d_M_lendings_155 (by decide))) (rGoE (p2 := 180) (rF 34 fl_M_400 nk_12_34 (rAn 0 d_M_lendings_158 rfl) d_M_lendings_159 rfl) d_M_lendings_162 (by decide)) (rT2 (rNot (rJ2 (tgt := 174) j_ne (rIn 1 d_M_lendings_165 rfl) (rI d_M_lendings_166 rfl) d_M_lendings_167 (by decide))) (rGoE (p2 := 180) (rIn 2 d_M_lendings_170 rfl) d_M_lendings_171 (by decide)) (rIa (rFr fl_M_83 nk_12_33 (rAn 0 d_M_lendings_174 rfl) d_M_lendings_175) (rI d_M_lendings_178 rfl) d_M_lendings_179)))) d_M_lendings_180 rfl)) (sS (p1 := 192) (sIf (pn := 192) (tt := 190) (xC (rNot (rJ1 (tgt := 192) k_ne (rIa (rFr fl_M_83 nk_12_33 (rAn 0 d_M_lendings_181 rfl) d_M_lendings_182) (rI d_M_lendings_185 rfl) d_M_lendings_186) d_M_lendings_187 (by decide)))) (sRi (xE (rI d_M_lendings_190 rfl)) d_M_lendings_191 rfl)) (sS (p1 := 195) (sI (xE (rI d_M_lendings_192 rfl)) d_M_lendings_193 (by decide)) (sS (p1 := 198) (sI (xE (rI d_M_lendings_195 rfl)) d_M_lendings_196 (by decide)) (sS (p1 := 257) (sS (p1 := 201) (sI (xE (rI d_M_lendings_198 rfl)) d_M_lendings_199 (by decide)) (sLp (ps := 251) (tt := 207) (pn := 257) (p1 := 0) (p2 := 0) (xC (rNot (rJ2 (tgt := 257) j_gt (rIl d_M_lendings_201) (rIn 1 d_M_lendings_203 rfl) d_M_lendings_204 (by decide)))) (sS (p1 := 210) (sI (xE (rI d_M_lendings_207 rfl)) d_M_lendings_208 (by decide)) (sS (p1 := 242) (sLp (ps := 210) (tt := 236) (pn := 242) (p1 := 0) (p2 := 0) (xC (rOr (mm := 221) (rNot (rNot (rJ1 (tgt := 236) k_eq (rV p_M_mayLend (Nat.le_trans (Nat.le_of_ble_eq_true rfl) hd) lv_M_415 (rAi (rAi (rAr rA0 (rAn 0 d_M_lendings_210 rfl)) (rIl d_M_lendings_211)) (rIl d_M_lendings_213)) (by decide) d_M_lendings_215) d_M_lendings_218 (by decide)))) (rNot (rJ1 (tgt := 242) k_ne (rIa (rFr fl_M_83 nk_12_33 (rAn 0 d_M_lendings_221 rfl) d_M_lendings_222) (r2 o_or (rIl d_M_lendings_225) (r2 o_shl (rI d_M_lendings_227 rfl) (rIl d_M_lendings_228) d_M_lendings_230) d_M_lendings_231) d_M_lendings_232) d_M_lendings_233 (by decide))))) (sGo (pn := 210) (sInc d_M_lendings_236 (by decide)) d_M_lendings_239 (by decide)) s0) (sI (xE (r2 o_or (rIl d_M_lendings_242) (r2 o_shl (rI d_M_lendings_244 rfl) (rIl d_M_lendings_245) d_M_lendings_247) d_M_lendings_248)) d_M_lendings_249 (by decide)))) (sGo (pn := 201) (sInc d_M_lendings_251 (by decide)) d_M_lendings_254 (by decide)))) (sRi (xE (rIa (rFr fl_M_80 nk_12_32 (rAn 0 d_M_lendings_257 rfl) d_M_lendings_258) (rIl d_M_lendings_261) d_M_lendings_263)) d_M_lendings_264 rfl))))))))))))
set_option maxRecDepth 20000 in
theorem q_M_lendings {d : Nat} (hd : 51 ≤ d) {μ : zMem} {Z : Zt} {F : Option (List Cls)} {A : Lg} {w : Int → Int} {V : List D4} {x : Int} (hx : zI x) (hC : MTx μ Z F A w) (hV : VMx 87 153 999 μ V) : zSp d 0 0 y_M_lendings zT0 [vr 355, vi x] μ zT0 (fun q μ' => q = some (vi (zit (x < 0) (-1) (lnA Z F A w V x))) ∧ HC μ μ' ∧ KM μ μ') := by
  refine zSp.ss [vr 355, vi x, vx 0, vx 0, vx 0, vx 0, vx 0] rfl (w_M_lendings (Nat.le_trans (by decide) hd)) rfl rfl ?_
  (try simp only [zit_e, Bool.and_eq_true, Bool.or_eq_true, Bool.not_eq_true', Bool.and_eq_false_iff, Bool.or_eq_false_iff, Bool.not_eq_false', zbe, zdt, zdf, zb2_p, zbp_0, zbp_1, zbp_inj, zbp_01, Bool.true_eq_false, Bool.false_eq_true, true_and, and_true, Decidable.not_not, Classical.not_not, implies_true, List.nil_append, List.cons_append, List.append_assoc, Option.some.injEq, Sum.inl.injEq, zSw_c, zSw_n]); (try simp only [zit_e, Bool.and_eq_true, Bool.or_eq_true, Bool.not_eq_true', Bool.and_eq_false_iff, Bool.or_eq_false_iff, Bool.not_eq_false', zbe, zdt, zdf, zb2_p, zbp_0, zbp_1, zbp_inj, zbp_01, Bool.true_eq_false, Bool.false_eq_true, true_and, and_true, Decidable.not_not, Classical.not_not, implies_true, List.nil_append, List.cons_append, List.append_assoc, Option.some.injEq, Sum.inl.injEq, zSw_c, zSw_n, zc_355, f_M_lies, g_M_lies]); (try simp only [zi_cs, zi_c0, zii_cs, zii_c0, zl_cs, zl_c0, zll_cs, zll_c0, zr_cs, zr_c0, zrr_cs, zrr_c0, zxs_cs, zxs_c0, zxx_cs, zxx_c0, zfree_c0, zfree_c1, zfree_cs, zfree_cz, zlong_i, zlong_r, zlong_x, zset_0, zset_s, true_and, and_true, Option.some.injEq, Sum.inl.injEq, Sum.inr.injEq, zb2_p, zbp_0, zbp_1, zbp_inj, zbp_01, Nat.zero_add, Nat.reduceAdd, implies_true, List.nil_append, List.cons_append, List.append_assoc, Int.not_lt, Int.not_le, Decidable.not_not, Int.zero_add, Int.reduceLE, Int.reduceLT, Int.reduceEq, Int.reduceNe, Int.reduceAdd, Int.reduceSub, Int.reduceMul, Int.reduceNeg, Int.reduceToNat, Nat.reduceMul, Nat.reduceLT, Nat.reduceEqDiff, and_self, ite_true, ite_false, zx1, zx2, zRecv, List.length_cons, List.length_nil, ne_eq, not_true_eq_false, not_false_eq_true, true_or, or_true, or_false, false_or, and_false, false_and, zf01, zf10, reduceCtorEq, zSw_c, zSw_n, zm_r, zit_T, zit_F, false_implies, true_implies, zc_355, f_M_lies, g_M_lies])
  refine zCw.use (q_M_listsLendings (d := 50) (by decide) hC hV) (by omega) (fun q μ2 e => ?_)
  obtain ⟨hF, hf, e1, e2⟩ := e
  have hm : HC μ μ2 := hF.hc (by simp)
  have hk : KM μ μ2 := hF.km (by simp [scM]) (fun j hj => by unfold kfM at hj; exact hf j (by omega) (by omega) (by omega) (by omega) (by omega))
  unfold lnA
  rcases hL : lgS (ndA Z F A w) V V.length with _ | L
  · have := e1 hL
    subst this
    refine ⟨_, rfl, ?_⟩
    done
  obtain ⟨rfl, h5, hA⟩ := e2 L hL
  refine ⟨_, rfl, ?_⟩
  done

