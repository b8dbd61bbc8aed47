/-! lendings: the joint -/
theorem toS_t {L : List D4} : ∀ i : Nat, i ≤ L.length → toS (L.take i) + (if h : i < L.length then (dfV L i).2.2.1 else 0) = toS (L.take (i + 1))
  | i, hi => by
    split
    · next h =>
      have e : L.take (i + 1) = L.take i ++ [dfV L i] := by
        have := List.take_succ (l := L) (i := i)
        rw [this]
        congr 1
        have q := dfV_m (V := L) (k := i) (by omega) (by omega)
        rw [Int.toNat_natCast] at q
        rw [q]
        rfl
      rw [e, toS_app]
    · next h =>
      have : i = L.length := by omega
      subst this
      rw [Int.add_zero, List.take_length, List.take_of_length_le (by omega)]
theorem rwS_0 {L : List D4} {pu : Int → Int} {f : Nat → Int} {b : Nat} (h : ∀ i : Nat, i < L.length → ¬ lcS L pu b i) : ∀ i : Nat, i ≤ L.length → rwS L pu f b i = 0
  | 0, _ => rfl
  | i + 1, hi => by
    rw [rwS, rwS_0 h i (by omega), zit_f (h i (by omega))]
    rfl
theorem m_M_listsLendings : Cond.instanceMethod y_M_listsLendings.1 ∈ zTb ∧ Cond.selects y_M_listsLendings.1.cls y_M_listsLendings.1 y_M_listsLendings.1 ∈ zTb ∧ Cond.initialized y_M_listsLendings.1.cls ∈ zTb ∧ Cond.code y_M_listsLendings.1 y_M_listsLendings.2.1 y_M_listsLendings.2.2.1 y_M_listsLendings.2.2.2 ∈ zTb ∧ (y_M_listsLendings.1.cls ≠ "java/lang/invoke/MethodHandle" ∧ y_M_listsLendings.1.cls ≠ "java/lang/invoke/VarHandle" ∧ (parseMethodDescriptor y_M_listsLendings.1.desc).map (fun d => d.parameters.length) = some 0) ∧ y_M_listsLendings.2.2.1 ≤ 20 :=
  ⟨(zTb_in 1916 (by decide +kernel) (by decide +kernel)), (List.mem_filter.mpr ⟨List.mem_append_left _ (by decide +kernel), by decide +kernel⟩), (zTb_in 151 (by decide +kernel) (by decide +kernel)), (zTb_in 1917 (by decide +kernel) (by decide +kernel)), by decide +kernel, by decide +kernel⟩
theorem lv_M_412 : zLv "DebtDoorsModel" 412 y_M_listsLendings 0 12 := ⟨⟨(zTb_in 1914 (by decide +kernel) (by decide +kernel)), m_M_listsLendings.1, m_M_listsLendings.2.1, m_M_listsLendings.2.2⟩, _, rfl, rfl⟩
theorem nk_12_33 : zNk 12 33 = none := rfl
theorem m_M_mayLend : Cond.instanceMethod y_M_mayLend.1 ∈ zTb ∧ Cond.selects y_M_mayLend.1.cls y_M_mayLend.1 y_M_mayLend.1 ∈ zTb ∧ Cond.initialized y_M_mayLend.1.cls ∈ zTb ∧ Cond.code y_M_mayLend.1 y_M_mayLend.2.1 y_M_mayLend.2.2.1 y_M_mayLend.2.2.2 ∈ zTb ∧ (y_M_mayLend.1.cls ≠ "java/lang/invoke/MethodHandle" ∧ y_M_mayLend.1.cls ≠ "java/lang/invoke/VarHandle" ∧ (parseMethodDescriptor y_M_mayLend.1.desc).map (fun d => d.parameters.length) = some 2) ∧ y_M_mayLend.2.2.1 ≤ 20 :=
  ⟨(zTb_in 1924 (by decide +kernel) (by decide +kernel)), (List.mem_filter.mpr ⟨List.mem_append_left _ (by decide +kernel), by decide +kernel⟩), (zTb_in 151 (by decide +kernel) (by decide +kernel)), (zTb_in 1925 (by decide +kernel) (by decide +kernel)), by decide +kernel, by decide +kernel⟩
theorem lv_M_415 : zLv "DebtDoorsModel" 415 y_M_mayLend 2 12 := ⟨⟨(zTb_in 1922 (by decide +kernel) (by decide +kernel)), m_M_mayLend.1, m_M_mayLend.2.1, m_M_mayLend.2.2⟩, _, rfl, rfl⟩
def y_M_lendings : zMt := (⟨"DebtDoorsModel", "lendings", "(I)I"⟩, prog_14_method_111_code, 7, some .int)
theorem d_M_lendings_0 : decode prog_14_method_111_code 0 = .ok (.aload_n 0, 1) := by decide +kernel
theorem d_M_lendings_1 : decode prog_14_method_111_code 1 = .ok (.invokevirtual 412, 3) := by decide +kernel
theorem d_M_lendings_4 : decode prog_14_method_111_code 4 = .ok (.ifCond .eq 17, 3) := by decide +kernel
theorem d_M_lendings_7 : decode prog_14_method_111_code 7 = .ok (.iload_n 1, 1) := by decide +kernel
theorem d_M_lendings_8 : decode prog_14_method_111_code 8 = .ok (.iconst 0, 1) := by decide +kernel
theorem d_M_lendings_9 : decode prog_14_method_111_code 9 = .ok (.iconst 2, 1) := by decide +kernel
theorem d_M_lendings_10 : decode prog_14_method_111_code 10 = .ok (.aload_n 0, 1) := by decide +kernel
theorem d_M_lendings_11 : decode prog_14_method_111_code 11 = .ok (.getfield 400, 3) := by decide +kernel
theorem d_M_lendings_14 : decode prog_14_method_111_code 14 = .ok (.iadd, 1) := by decide +kernel
theorem d_M_lendings_15 : decode prog_14_method_111_code 15 = .ok (.invokestatic 123, 3) := by decide +kernel
theorem d_M_lendings_18 : decode prog_14_method_111_code 18 = .ok (.ifCond .ne 5, 3) := by decide +kernel
theorem d_M_lendings_21 : decode prog_14_method_111_code 21 = .ok (.iconst (-1), 1) := by decide +kernel
theorem d_M_lendings_22 : decode prog_14_method_111_code 22 = .ok (.ireturn, 1) := by decide +kernel
theorem d_M_lendings_23 : decode prog_14_method_111_code 23 = .ok (.iconst 0, 1) := by decide +kernel
theorem d_M_lendings_24 : decode prog_14_method_111_code 24 = .ok (.istore_n 2, 1) := by decide +kernel
theorem d_M_lendings_25 : decode prog_14_method_111_code 25 = .ok (.iconst 1, 1) := by decide +kernel
theorem d_M_lendings_26 : decode prog_14_method_111_code 26 = .ok (.aload_n 0, 1) := by decide +kernel
theorem d_M_lendings_27 : decode prog_14_method_111_code 27 = .ok (.getfield 400, 3) := by decide +kernel
theorem d_M_lendings_30 : decode prog_14_method_111_code 30 = .ok (.ishl, 1) := by decide +kernel
theorem d_M_lendings_31 : decode prog_14_method_111_code 31 = .ok (.iconst 1, 1) := by decide +kernel
theorem d_M_lendings_32 : decode prog_14_method_111_code 32 = .ok (.isub, 1) := by decide +kernel
theorem d_M_lendings_33 : decode prog_14_method_111_code 33 = .ok (.istore_n 3, 1) := by decide +kernel
theorem d_M_lendings_34 : decode prog_14_method_111_code 34 = .ok (.iconst 0, 1) := by decide +kernel
theorem d_M_lendings_35 : decode prog_14_method_111_code 35 = .ok (.istore 4, 2) := by decide +kernel
theorem d_M_lendings_37 : decode prog_14_method_111_code 37 = .ok (.iload 4, 2) := by decide +kernel
theorem d_M_lendings_39 : decode prog_14_method_111_code 39 = .ok (.aload_n 0, 1) := by decide +kernel
theorem d_M_lendings_40 : decode prog_14_method_111_code 40 = .ok (.getfield 400, 3) := by decide +kernel
theorem d_M_lendings_43 : decode prog_14_method_111_code 43 = .ok (.if_icmp .ge 19, 3) := by decide +kernel
theorem d_M_lendings_46 : decode prog_14_method_111_code 46 = .ok (.iload_n 2, 1) := by decide +kernel
theorem d_M_lendings_47 : decode prog_14_method_111_code 47 = .ok (.aload_n 0, 1) := by decide +kernel
theorem d_M_lendings_48 : decode prog_14_method_111_code 48 = .ok (.getfield 77, 3) := by decide +kernel
theorem d_M_lendings_51 : decode prog_14_method_111_code 51 = .ok (.iload 4, 2) := by decide +kernel
theorem d_M_lendings_53 : decode prog_14_method_111_code 53 = .ok (.iaload, 1) := by decide +kernel
theorem d_M_lendings_54 : decode prog_14_method_111_code 54 = .ok (.iadd, 1) := by decide +kernel
theorem d_M_lendings_55 : decode prog_14_method_111_code 55 = .ok (.istore_n 2, 1) := by decide +kernel
theorem d_M_lendings_56 : decode prog_14_method_111_code 56 = .ok (.iinc 4 1, 3) := by decide +kernel
theorem d_M_lendings_59 : decode prog_14_method_111_code 59 = .ok (.goto (-22), 3) := by decide +kernel
theorem d_M_lendings_62 : decode prog_14_method_111_code 62 = .ok (.iload_n 3, 1) := by decide +kernel
theorem d_M_lendings_63 : decode prog_14_method_111_code 63 = .ok (.istore 4, 2) := by decide +kernel
theorem d_M_lendings_65 : decode prog_14_method_111_code 65 = .ok (.iload 4, 2) := by decide +kernel
theorem d_M_lendings_67 : decode prog_14_method_111_code 67 = .ok (.ifCond .lt 82, 3) := by decide +kernel
theorem d_M_lendings_70 : decode prog_14_method_111_code 70 = .ok (.aload_n 0, 1) := by decide +kernel
theorem d_M_lendings_71 : decode prog_14_method_111_code 71 = .ok (.getfield 83, 3) := by decide +kernel
theorem d_M_lendings_74 : decode prog_14_method_111_code 74 = .ok (.iload 4, 2) := by decide +kernel
theorem d_M_lendings_76 : decode prog_14_method_111_code 76 = .ok (.iload 4, 2) := by decide +kernel
theorem d_M_lendings_78 : decode prog_14_method_111_code 78 = .ok (.iload_n 3, 1) := by decide +kernel
theorem d_M_lendings_79 : decode prog_14_method_111_code 79 = .ok (.if_icmp .ne 7, 3) := by decide +kernel
theorem d_M_lendings_82 : decode prog_14_method_111_code 82 = .ok (.iconst 1, 1) := by decide +kernel
theorem d_M_lendings_83 : decode prog_14_method_111_code 83 = .ok (.goto 4, 3) := by decide +kernel
theorem d_M_lendings_86 : decode prog_14_method_111_code 86 = .ok (.iconst 0, 1) := by decide +kernel
theorem d_M_lendings_87 : decode prog_14_method_111_code 87 = .ok (.iastore, 1) := by decide +kernel
theorem d_M_lendings_88 : decode prog_14_method_111_code 88 = .ok (.iconst 0, 1) := by decide +kernel
theorem d_M_lendings_89 : decode prog_14_method_111_code 89 = .ok (.istore 5, 2) := by decide +kernel
theorem d_M_lendings_91 : decode prog_14_method_111_code 91 = .ok (.iload 5, 2) := by decide +kernel
theorem d_M_lendings_93 : decode prog_14_method_111_code 93 = .ok (.aload_n 0, 1) := by decide +kernel
theorem d_M_lendings_94 : decode prog_14_method_111_code 94 = .ok (.getfield 400, 3) := by decide +kernel
theorem d_M_lendings_97 : decode prog_14_method_111_code 97 = .ok (.if_icmp .ge 46, 3) := by decide +kernel
theorem d_M_lendings_100 : decode prog_14_method_111_code 100 = .ok (.aload_n 0, 1) := by decide +kernel
theorem d_M_lendings_101 : decode prog_14_method_111_code 101 = .ok (.getfield 83, 3) := by decide +kernel
theorem d_M_lendings_104 : decode prog_14_method_111_code 104 = .ok (.iload 4, 2) := by decide +kernel
theorem d_M_lendings_106 : decode prog_14_method_111_code 106 = .ok (.dup2, 1) := by decide +kernel
theorem d_M_lendings_107 : decode prog_14_method_111_code 107 = .ok (.iaload, 1) := by decide +kernel
theorem d_M_lendings_108 : decode prog_14_method_111_code 108 = .ok (.aload_n 0, 1) := by decide +kernel
theorem d_M_lendings_109 : decode prog_14_method_111_code 109 = .ok (.iload 4, 2) := by decide +kernel
theorem d_M_lendings_111 : decode prog_14_method_111_code 111 = .ok (.iload 5, 2) := by decide +kernel
theorem d_M_lendings_113 : decode prog_14_method_111_code 113 = .ok (.invokevirtual 415, 3) := by decide +kernel
theorem d_M_lendings_116 : decode prog_14_method_111_code 116 = .ok (.ifCond .eq 18, 3) := by decide +kernel
theorem d_M_lendings_119 : decode prog_14_method_111_code 119 = .ok (.aload_n 0, 1) := by decide +kernel
theorem d_M_lendings_120 : decode prog_14_method_111_code 120 = .ok (.getfield 83, 3) := by decide +kernel
theorem d_M_lendings_123 : decode prog_14_method_111_code 123 = .ok (.iload 4, 2) := by decide +kernel
theorem d_M_lendings_125 : decode prog_14_method_111_code 125 = .ok (.iconst 1, 1) := by decide +kernel
theorem d_M_lendings_126 : decode prog_14_method_111_code 126 = .ok (.iload 5, 2) := by decide +kernel
theorem d_M_lendings_128 : decode prog_14_method_111_code 128 = .ok (.ishl, 1) := by decide +kernel
theorem d_M_lendings_129 : decode prog_14_method_111_code 129 = .ok (.ior, 1) := by decide +kernel
theorem d_M_lendings_130 : decode prog_14_method_111_code 130 = .ok (.iaload, 1) := by decide +kernel
theorem d_M_lendings_131 : decode prog_14_method_111_code 131 = .ok (.goto 4, 3) := by decide +kernel
theorem d_M_lendings_134 : decode prog_14_method_111_code 134 = .ok (.iconst 0, 1) := by decide +kernel
theorem d_M_lendings_135 : decode prog_14_method_111_code 135 = .ok (.iadd, 1) := by decide +kernel
theorem d_M_lendings_136 : decode prog_14_method_111_code 136 = .ok (.iastore, 1) := by decide +kernel
theorem d_M_lendings_137 : decode prog_14_method_111_code 137 = .ok (.iinc 5 1, 3) := by decide +kernel
theorem d_M_lendings_140 : decode prog_14_method_111_code 140 = .ok (.goto (-49), 3) := by decide +kernel
theorem d_M_lendings_143 : decode prog_14_method_111_code 143 = .ok (.iinc 4 (-1), 3) := by decide +kernel
theorem d_M_lendings_146 : decode prog_14_method_111_code 146 = .ok (.goto (-81), 3) := by decide +kernel
theorem d_M_lendings_149 : decode prog_14_method_111_code 149 = .ok (.iload_n 1, 1) := by decide +kernel
theorem d_M_lendings_150 : decode prog_14_method_111_code 150 = .ok (.iconst 3, 1) := by decide +kernel
theorem d_M_lendings_151 : decode prog_14_method_111_code 151 = .ok (.if_icmp .ge 30, 3) := by decide +kernel
theorem d_M_lendings_154 : decode prog_14_method_111_code 154 = .ok (.iload_n 1, 1) := by decide +kernel
theorem d_M_lendings_155 : decode prog_14_method_111_code 155 = .ok (.ifCond .ne 10, 3) := by decide +kernel
theorem d_M_lendings_158 : decode prog_14_method_111_code 158 = .ok (.aload_n 0, 1) := by decide +kernel
theorem d_M_lendings_159 : decode prog_14_method_111_code 159 = .ok (.getfield 400, 3) := by decide +kernel
theorem d_M_lendings_162 : decode prog_14_method_111_code 162 = .ok (.goto 18, 3) := by decide +kernel
theorem d_M_lendings_165 : decode prog_14_method_111_code 165 = .ok (.iload_n 1, 1) := by decide +kernel
theorem d_M_lendings_166 : decode prog_14_method_111_code 166 = .ok (.iconst 1, 1) := by decide +kernel
theorem d_M_lendings_167 : decode prog_14_method_111_code 167 = .ok (.if_icmp .ne 7, 3) := by decide +kernel
theorem d_M_lendings_170 : decode prog_14_method_111_code 170 = .ok (.iload_n 2, 1) := by decide +kernel
theorem d_M_lendings_171 : decode prog_14_method_111_code 171 = .ok (.goto 9, 3) := by decide +kernel
theorem d_M_lendings_174 : decode prog_14_method_111_code 174 = .ok (.aload_n 0, 1) := by decide +kernel
theorem d_M_lendings_175 : decode prog_14_method_111_code 175 = .ok (.getfield 83, 3) := by decide +kernel
theorem d_M_lendings_178 : decode prog_14_method_111_code 178 = .ok (.iconst 0, 1) := by decide +kernel
theorem d_M_lendings_179 : decode prog_14_method_111_code 179 = .ok (.iaload, 1) := by decide +kernel
theorem d_M_lendings_180 : decode prog_14_method_111_code 180 = .ok (.ireturn, 1) := by decide +kernel
theorem d_M_lendings_181 : decode prog_14_method_111_code 181 = .ok (.aload_n 0, 1) := by decide +kernel
theorem d_M_lendings_182 : decode prog_14_method_111_code 182 = .ok (.getfield 83, 3) := by decide +kernel
theorem d_M_lendings_185 : decode prog_14_method_111_code 185 = .ok (.iconst 0, 1) := by decide +kernel
theorem d_M_lendings_186 : decode prog_14_method_111_code 186 = .ok (.iaload, 1) := by decide +kernel
theorem d_M_lendings_187 : decode prog_14_method_111_code 187 = .ok (.ifCond .ne 5, 3) := by decide +kernel
theorem d_M_lendings_190 : decode prog_14_method_111_code 190 = .ok (.iconst (-1), 1) := by decide +kernel
theorem d_M_lendings_191 : decode prog_14_method_111_code 191 = .ok (.ireturn, 1) := by decide +kernel
theorem d_M_lendings_192 : decode prog_14_method_111_code 192 = .ok (.iconst 0, 1) := by decide +kernel
theorem d_M_lendings_193 : decode prog_14_method_111_code 193 = .ok (.istore 4, 2) := by decide +kernel
theorem d_M_lendings_195 : decode prog_14_method_111_code 195 = .ok (.iconst 0, 1) := by decide +kernel
theorem d_M_lendings_196 : decode prog_14_method_111_code 196 = .ok (.istore 5, 2) := by decide +kernel
theorem d_M_lendings_198 : decode prog_14_method_111_code 198 = .ok (.iconst 3, 1) := by decide +kernel
theorem d_M_lendings_199 : decode prog_14_method_111_code 199 = .ok (.istore 6, 2) := by decide +kernel
theorem d_M_lendings_201 : decode prog_14_method_111_code 201 = .ok (.iload 6, 2) := by decide +kernel
theorem d_M_lendings_203 : decode prog_14_method_111_code 203 = .ok (.iload_n 1, 1) := by decide +kernel
theorem d_M_lendings_204 : decode prog_14_method_111_code 204 = .ok (.if_icmp .gt 53, 3) := by decide +kernel
theorem d_M_lendings_207 : decode prog_14_method_111_code 207 = .ok (.iconst 0, 1) := by decide +kernel
theorem d_M_lendings_208 : decode prog_14_method_111_code 208 = .ok (.istore 5, 2) := by decide +kernel
theorem d_M_lendings_210 : decode prog_14_method_111_code 210 = .ok (.aload_n 0, 1) := by decide +kernel
theorem d_M_lendings_211 : decode prog_14_method_111_code 211 = .ok (.iload 4, 2) := by decide +kernel
theorem d_M_lendings_213 : decode prog_14_method_111_code 213 = .ok (.iload 5, 2) := by decide +kernel
theorem d_M_lendings_215 : decode prog_14_method_111_code 215 = .ok (.invokevirtual 415, 3) := by decide +kernel
theorem d_M_lendings_218 : decode prog_14_method_111_code 218 = .ok (.ifCond .eq 18, 3) := by decide +kernel
theorem d_M_lendings_221 : decode prog_14_method_111_code 221 = .ok (.aload_n 0, 1) := by decide +kernel
theorem d_M_lendings_222 : decode prog_14_method_111_code 222 = .ok (.getfield 83, 3) := by decide +kernel
theorem d_M_lendings_225 : decode prog_14_method_111_code 225 = .ok (.iload 4, 2) := by decide +kernel
theorem d_M_lendings_227 : decode prog_14_method_111_code 227 = .ok (.iconst 1, 1) := by decide +kernel
theorem d_M_lendings_228 : decode prog_14_method_111_code 228 = .ok (.iload 5, 2) := by decide +kernel
theorem d_M_lendings_230 : decode prog_14_method_111_code 230 = .ok (.ishl, 1) := by decide +kernel
theorem d_M_lendings_231 : decode prog_14_method_111_code 231 = .ok (.ior, 1) := by decide +kernel
theorem d_M_lendings_232 : decode prog_14_method_111_code 232 = .ok (.iaload, 1) := by decide +kernel
theorem d_M_lendings_233 : decode prog_14_method_111_code 233 = .ok (.ifCond .ne 9, 3) := by decide +kernel
theorem d_M_lendings_236 : decode prog_14_method_111_code 236 = .ok (.iinc 5 1, 3) := by decide +kernel
theorem d_M_lendings_239 : decode prog_14_method_111_code 239 = .ok (.goto (-29), 3) := by decide +kernel
theorem d_M_lendings_242 : decode prog_14_method_111_code 242 = .ok (.iload 4, 2) := by decide +kernel
theorem d_M_lendings_244 : decode prog_14_method_111_code 244 = .ok (.iconst 1, 1) := by decide +kernel
theorem d_M_lendings_245 : decode prog_14_method_111_code 245 = .ok (.iload 5, 2) := by decide +kernel
theorem d_M_lendings_247 : decode prog_14_method_111_code 247 = .ok (.ishl, 1) := by decide +kernel
theorem d_M_lendings_248 : decode prog_14_method_111_code 248 = .ok (.ior, 1) := by decide +kernel
theorem d_M_lendings_249 : decode prog_14_method_111_code 249 = .ok (.istore 4, 2) := by decide +kernel
theorem d_M_lendings_251 : decode prog_14_method_111_code 251 = .ok (.iinc 6 1, 3) := by decide +kernel
theorem d_M_lendings_254 : decode prog_14_method_111_code 254 = .ok (.goto (-53), 3) := by decide +kernel
theorem d_M_lendings_257 : decode prog_14_method_111_code 257 = .ok (.aload_n 0, 1) := by decide +kernel
theorem d_M_lendings_258 : decode prog_14_method_111_code 258 = .ok (.getfield 80, 3) := by decide +kernel
theorem d_M_lendings_261 : decode prog_14_method_111_code 261 = .ok (.iload 5, 2) := by decide +kernel
theorem d_M_lendings_263 : decode prog_14_method_111_code 263 = .ok (.iaload, 1) := by decide +kernel
theorem d_M_lendings_264 : decode prog_14_method_111_code 264 = .ok (.ireturn, 1) := by decide +kernel
def w_M_lendings {d : Nat} (hd : 4 ≤ d) := (show SS ("DebtDoorsModel", prog_14_method_111_code, 7) (some .int) d 0 0 0 0 _ from (sS (p1 := 23) (sIf (pn := 23) (tt := 21) (xOr (mm := 7) (xNot (xNot (xJ1 (tgt := 21) k_eq (xV lv_M_412 (xA (rAr rA0 (rAn 0 d_M_lendings_0 rfl))) (by decide) d_M_lendings_1) d_M_lendings_4 (by decide)))) (xC (rNot (rJ1 (tgt := 23) k_ne (rS p_M_lies (Nat.le_trans (Nat.le_of_ble_eq_true rfl) hd) ls_M_123 (rAi (rAi (rAi rA0 (rIn 1 d_M_lendings_7 rfl)) (rI d_M_lendings_8 rfl)) (r2 o_add (rI d_M_lendings_9 rfl) (rF 34 fl_M_400 nk_12_34 (rAn 0 d_M_lendings_10 rfl) d_M_lendings_11 rfl) d_M_lendings_14)) (by decide) d_M_lendings_15) d_M_lendings_18 (by decide))))) (sRi (xE (rI d_M_lendings_21 rfl)) d_M_lendings_22 rfl)) (sS (p1 := 25) (sIn 2 (xE (rI d_M_lendings_23 rfl)) d_M_lendings_24 rfl (by decide)) (sS (p1 := 34) (sIn 3 (xE (r2 o_sub (r2 o_shl (rI d_M_lendings_25 rfl) (rF 34 fl_M_400 nk_12_34 (rAn 0 d_M_lendings_26 rfl) d_M_lendings_27 rfl) d_M_lendings_30) (rI d_M_lendings_31 rfl) d_M_lendings_32)) d_M_lendings_33 rfl (by decide)) (sS (p1 := 62) (sS (p1 := 37) (sI (xE (rI d_M_lendings_34 rfl)) d_M_lendings_35 (by decide)) (sLp (ps := 56) (tt := 46) (pn := 62) (p1 := 0) (p2 := 0) (xC (rNot (rJ2 (tgt := 62) j_ge (rIl d_M_lendings_37) (rF 34 fl_M_400 nk_12_34 (rAn 0 d_M_lendings_39 rfl) d_M_lendings_40 rfl) d_M_lendings_43 (by decide)))) (sIn 2 (xE (r2 o_add (rIn 2 d_M_lendings_46 rfl) (rIa (rFr fl_M_77 nk_12_31 (rAn 0 d_M_lendings_47 rfl) d_M_lendings_48) (rIl d_M_lendings_51) d_M_lendings_53) d_M_lendings_54)) d_M_lendings_55 rfl (by decide)) (sGo (pn := 37) (sInc d_M_lendings_56 (by decide)) d_M_lendings_59 (by decide)))) (sS (p1 := 149) (sS (p1 := 65) (sI (xE (rIn 3 d_M_lendings_62 rfl)) d_M_lendings_63 (by decide)) (sLp (ps := 143) (tt := 70) (pn := 149) (p1 := 0) (p2 := 0) (xC (rNot (rJ1 (tgt := 149) k_lt (rIl d_M_lendings_65) d_M_lendings_67 (by decide)))) (sS (p1 := 88) (sAs (rFr fl_M_83 nk_12_33 (rAn 0 d_M_lendings_70 rfl) d_M_lendings_71) (rIl d_M_lendings_74) (xE (rT2 (rNot (rJ2 (tgt := 86) j_ne (rIl d_M_lendings_76) (rIn 3 d_M_lendings_78 rfl) d_M_lendings_79 (by decide))) (rGoE (p2 := 87) (rI d_M_lendings_82 rfl) d_M_lendings_83 (by decide)) (rI d_M_lendings_86 rfl))) d_M_lendings_87) (sS (p1 := 91) (sI (xE (rI d_M_lendings_88 rfl)) d_M_lendings_89 (by decide)) (sLp (ps := 137) (tt := 100) (pn := 143) (p1 := 0) (p2 := 0) (xC (rNot (rJ2 (tgt := 143) j_ge (rIl d_M_lendings_91) (rF 34 fl_M_400 nk_12_34 (rAn 0 d_M_lendings_93 rfl) d_M_lendings_94 rfl) d_M_lendings_97 (by decide)))) (sAo o_add (rFr fl_M_83 nk_12_33 (rAn 0 d_M_lendings_100 rfl) d_M_lendings_101) (rIl d_M_lendings_104) d_M_lendings_106 d_M_lendings_107 (rT2 (rNot (rJ1 (tgt := 134) k_eq (rV p_M_mayLend (Nat.le_trans (Nat.le_of_ble_eq_true rfl) hd) lv_M_415 (rAi (rAi (rAr rA0 (rAn 0 d_M_lendings_108 rfl)) (rIl d_M_lendings_109)) (rIl d_M_lendings_111)) (by decide) d_M_lendings_113) d_M_lendings_116 (by decide))) (rGoE (p2 := 135) (rIa (rFr fl_M_83 nk_12_33 (rAn 0 d_M_lendings_119 rfl) d_M_lendings_120) (r2 o_or (rIl d_M_lendings_123) (r2 o_shl (rI d_M_lendings_125 rfl) (rIl d_M_lendings_126) d_M_lendings_128) d_M_lendings_129) d_M_lendings_130) d_M_lendings_131 (by decide)) (rI d_M_lendings_134 rfl)) d_M_lendings_135 d_M_lendings_136) (sGo (pn := 91) (sInc d_M_lendings_137 (by decide)) d_M_lendings_140 (by decide))))) (sGo (pn := 65) (sInc d_M_lendings_143 (by decide)) d_M_lendings_146 (by decide)))) (sS (p1 := 181) (sIf (pn := 181) (tt := 154) (xC (rNot (rJ2 (tgt := 181) j_ge (rIn 1 d_M_lendings_149 rfl) (rI d_M_lendings_150 rfl) d_M_lendings_151 (by decide)))) (sRi (xE (rT2 (rNot (rJ1 (tgt := 165) k_ne (rIn 1 d_M_lendings_154 rfl) d_M_lendings_155 (by decide))) (rGoE (p2 := 180) (rF 34 fl_M_400 nk_12_34 (rAn 0 d_M_lendings_158 rfl) d_M_lendings_159 rfl) d_M_lendings_162 (by decide)) (rT2 (rNot (rJ2 (tgt := 174) j_ne (rIn 1 d_M_lendings_165 rfl) (rI d_M_lendings_166 rfl) d_M_lendings_167 (by decide))) (rGoE (p2 := 180) (rIn 2 d_M_lendings_170 rfl) d_M_lendings_171 (by decide)) (rIa (rFr fl_M_83 nk_12_33 (rAn 0 d_M_lendings_174 rfl) d_M_lendings_175) (rI d_M_lendings_178 rfl) d_M_lendings_179)))) d_M_lendings_180 rfl)) (sS (p1 := 192) (sIf (pn := 192) (tt := 190) (xC (rNot (rJ1 (tgt := 192) k_ne (rIa (rFr fl_M_83 nk_12_33 (rAn 0 d_M_lendings_181 rfl) d_M_lendings_182) (rI d_M_lendings_185 rfl) d_M_lendings_186) d_M_lendings_187 (by decide)))) (sRi (xE (rI d_M_lendings_190 rfl)) d_M_lendings_191 rfl)) (sS (p1 := 195) (sI (xE (rI d_M_lendings_192 rfl)) d_M_lendings_193 (by decide)) (sS (p1 := 198) (sI (xE (rI d_M_lendings_195 rfl)) d_M_lendings_196 (by decide)) (sS (p1 := 257) (sS (p1 := 201) (sI (xE (rI d_M_lendings_198 rfl)) d_M_lendings_199 (by decide)) (sLp (ps := 251) (tt := 207) (pn := 257) (p1 := 0) (p2 := 0) (xC (rNot (rJ2 (tgt := 257) j_gt (rIl d_M_lendings_201) (rIn 1 d_M_lendings_203 rfl) d_M_lendings_204 (by decide)))) (sS (p1 := 210) (sI (xE (rI d_M_lendings_207 rfl)) d_M_lendings_208 (by decide)) (sS (p1 := 242) (sLp (ps := 210) (tt := 236) (pn := 242) (p1 := 0) (p2 := 0) (xC (rOr (mm := 221) (rNot (rNot (rJ1 (tgt := 236) k_eq (rV p_M_mayLend (Nat.le_trans (Nat.le_of_ble_eq_true rfl) hd) lv_M_415 (rAi (rAi (rAr rA0 (rAn 0 d_M_lendings_210 rfl)) (rIl d_M_lendings_211)) (rIl d_M_lendings_213)) (by decide) d_M_lendings_215) d_M_lendings_218 (by decide)))) (rNot (rJ1 (tgt := 242) k_ne (rIa (rFr fl_M_83 nk_12_33 (rAn 0 d_M_lendings_221 rfl) d_M_lendings_222) (r2 o_or (rIl d_M_lendings_225) (r2 o_shl (rI d_M_lendings_227 rfl) (rIl d_M_lendings_228) d_M_lendings_230) d_M_lendings_231) d_M_lendings_232) d_M_lendings_233 (by decide))))) (sGo (pn := 210) (sInc d_M_lendings_236 (by decide)) d_M_lendings_239 (by decide)) s0) (sI (xE (r2 o_or (rIl d_M_lendings_242) (r2 o_shl (rI d_M_lendings_244 rfl) (rIl d_M_lendings_245) d_M_lendings_247) d_M_lendings_248)) d_M_lendings_249 (by decide)))) (sGo (pn := 201) (sInc d_M_lendings_251 (by decide)) d_M_lendings_254 (by decide)))) (sRi (xE (rIa (rFr fl_M_80 nk_12_32 (rAn 0 d_M_lendings_257 rfl) d_M_lendings_258) (rIl d_M_lendings_261) d_M_lendings_263)) d_M_lendings_264 rfl))))))))))))
set_option maxRecDepth 20000 in
theorem q_M_lendings {d : Nat} (hd : 51 ≤ d) {μ : zMem} {Z : Zt} {F : Option (List Cls)} {A : Lg} {w : Int → Int} {V : List D4} {x : Int} (hx : zI x) (hC : MTx μ Z F A w) (hV : VMx 87 153 999 μ V) : zSp d 0 0 y_M_lendings zT0 [vr 355, vi x] μ zT0 (fun q μ' => q = some (vi (zit (x < 0) (-1) (lnA Z F A w V x))) ∧ HC μ μ' ∧ KM μ μ') := by
  refine zSp.ss [vr 355, vi x, vx 0, vx 0, vx 0, vx 0, vx 0] rfl (w_M_lendings (Nat.le_trans (by decide) hd)) rfl rfl ?_
  (try simp only [zit_e, Bool.and_eq_true, Bool.or_eq_true, Bool.not_eq_true', Bool.and_eq_false_iff, Bool.or_eq_false_iff, Bool.not_eq_false', zbe, zdt, zdf, zb2_p, zbp_0, zbp_1, zbp_inj, zbp_01, Bool.true_eq_false, Bool.false_eq_true, true_and, and_true, Decidable.not_not, Classical.not_not, implies_true, List.nil_append, List.cons_append, List.append_assoc, Option.some.injEq, Sum.inl.injEq, zSw_c, zSw_n]); (try simp only [zit_e, Bool.and_eq_true, Bool.or_eq_true, Bool.not_eq_true', Bool.and_eq_false_iff, Bool.or_eq_false_iff, Bool.not_eq_false', zbe, zdt, zdf, zb2_p, zbp_0, zbp_1, zbp_inj, zbp_01, Bool.true_eq_false, Bool.false_eq_true, true_and, and_true, Decidable.not_not, Classical.not_not, implies_true, List.nil_append, List.cons_append, List.append_assoc, Option.some.injEq, Sum.inl.injEq, zSw_c, zSw_n, zc_355, f_M_lies, g_M_lies]); (try simp only [zi_cs, zi_c0, zii_cs, zii_c0, zl_cs, zl_c0, zll_cs, zll_c0, zr_cs, zr_c0, zrr_cs, zrr_c0, zxs_cs, zxs_c0, zxx_cs, zxx_c0, zfree_c0, zfree_c1, zfree_cs, zfree_cz, zlong_i, zlong_r, zlong_x, zset_0, zset_s, true_and, and_true, Option.some.injEq, Sum.inl.injEq, Sum.inr.injEq, zb2_p, zbp_0, zbp_1, zbp_inj, zbp_01, Nat.zero_add, Nat.reduceAdd, implies_true, List.nil_append, List.cons_append, List.append_assoc, Int.not_lt, Int.not_le, Decidable.not_not, Int.zero_add, Int.reduceLE, Int.reduceLT, Int.reduceEq, Int.reduceNe, Int.reduceAdd, Int.reduceSub, Int.reduceMul, Int.reduceNeg, Int.reduceToNat, Nat.reduceMul, Nat.reduceLT, Nat.reduceEqDiff, and_self, ite_true, ite_false, zx1, zx2, zRecv, List.length_cons, List.length_nil, ne_eq, not_true_eq_false, not_false_eq_true, true_or, or_true, or_false, false_or, and_false, false_and, zf01, zf10, reduceCtorEq, zSw_c, zSw_n, zm_r, zit_T, zit_F, false_implies, true_implies, zc_355, f_M_lies, g_M_lies])
  refine zCw.use (q_M_listsLendings (d := 50) (by decide) hC hV) (by omega) (fun q μ2 e => ?_)
  obtain ⟨hF, hf, e1, e2⟩ := e
  have hm : HC μ μ2 := hF.hc (by simp)
  have hk : KM μ μ2 := hF.km (by simp [scM]) (fun j hj => by unfold kfM at hj; exact hf j (by omega) (by omega) (by omega) (by omega) (by omega))
  unfold lnA
  rcases hL : lgS (ndA Z F A w) V V.length with _ | L
  · have := e1 hL
    subst this
    refine ⟨_, rfl, ?_⟩
    rw [if_pos rfl]
    refine ⟨?_, hm, hk⟩
    unfold zit
    split <;> rfl
  obtain ⟨rfl, h5, hA⟩ := e2 L hL
  refine ⟨_, rfl, ?_⟩
  have hin := lgS_in (nd := ndA Z F A w) hV.2.2 (fun _ _ _ => ndA_in) V.length (Nat.le_refl _) L hL
  have hVl := hV.l
  have hV8 := hV.1
  have h8 : L.length ≤ 8 := by omega
  have hsh : zshl 1 (L.length : Int) = ((2 ^ L.length : Nat) : Int) := zshl_n (by omega)
  have hp8 : 2 ^ L.length ≤ 2 ^ 8 := Nat.pow_le_pow_right (by decide) h8
  have h256 : (2 : Nat) ^ 8 = 256 := by decide
  have hpos : 1 ≤ 2 ^ L.length := Nat.one_le_two_pow
  have hall := pc_all h8
  have hr0 := lnR_in (L := L) (pu := puA A) h8 L.length 0
  simp only
  rw [if_neg (by decide), h5, hsh]
  refine ⟨zI_s (by omega) (by omega), ?_⟩
  refine zif (fun c => ?_) (fun c => ?_)
  · refine ⟨?_, hm, hk⟩
    by_cases c0 : x < 0
    · rw [zit_t c0]
    · rw [zit_f c0, zit_f (by omega), zit_f (by omega), zit_f (by omega), zit_f (by omega)]
  rw [zit_f (show ¬ x < 0 by omega)]
  generalize hM : 2 ^ L.length = M at *
  have hd1 := hC.d
  have hpu : ∀ p : Int, 0 ≤ p → p < 7 → μ2 357 p = puA A p := fun p a b => by
    rw [hF 357 (by decide)]
    unfold puA
    rw [← hd1.2.2.1, gL_tL a (by omega)]
  have hP : okP (μ2 357) := fun p a b => by
    rw [hpu p a b]
    exact hC.2.1.1 p a b
  have hts := toS_in hin.2
  refine ⟨zI_s (by omega) (by omega), ?_⟩
  refine zLoop.up L.length (fun j ρ μ3 => ∃ x5 x6 : zV, ρ = [vr 355, vi x, vi (toS (L.take j)), vi ((M : Int) - 1), vi j, x5, x6] ∧ μ2 = μ3) ⟨_, _, rfl, rfl⟩ ?_
  rintro j ρ μ3 hj ⟨x5, x6, rfl, rfl⟩
  (try simp only [zit_e, Bool.and_eq_true, Bool.or_eq_true, Bool.not_eq_true', Bool.and_eq_false_iff, Bool.or_eq_false_iff, Bool.not_eq_false', zbe, zdt, zdf, zb2_p, zbp_0, zbp_1, zbp_inj, zbp_01, Bool.true_eq_false, Bool.false_eq_true, true_and, and_true, Decidable.not_not, Classical.not_not, implies_true, List.nil_append, List.cons_append, List.append_assoc, Option.some.injEq, Sum.inl.injEq, zSw_c, zSw_n]); (try simp only [zit_e, Bool.and_eq_true, Bool.or_eq_true, Bool.not_eq_true', Bool.and_eq_false_iff, Bool.or_eq_false_iff, Bool.not_eq_false', zbe, zdt, zdf, zb2_p, zbp_0, zbp_1, zbp_inj, zbp_01, Bool.true_eq_false, Bool.false_eq_true, true_and, and_true, Decidable.not_not, Classical.not_not, implies_true, List.nil_append, List.cons_append, List.append_assoc, Option.some.injEq, Sum.inl.injEq, zSw_c, zSw_n, zc_355]); (try simp only [zi_cs, zi_c0, zii_cs, zii_c0, zl_cs, zl_c0, zll_cs, zll_c0, zr_cs, zr_c0, zrr_cs, zrr_c0, zxs_cs, zxs_c0, zxx_cs, zxx_c0, zfree_c0, zfree_c1, zfree_cs, zfree_cz, zlong_i, zlong_r, zlong_x, zset_0, zset_s, true_and, and_true, Option.some.injEq, Sum.inl.injEq, Sum.inr.injEq, zb2_p, zbp_0, zbp_1, zbp_inj, zbp_01, Nat.zero_add, Nat.reduceAdd, implies_true, List.nil_append, List.cons_append, List.append_assoc, Int.not_lt, Int.not_le, Decidable.not_not, Int.zero_add, Int.reduceLE, Int.reduceLT, Int.reduceEq, Int.reduceNe, Int.reduceAdd, Int.reduceSub, Int.reduceMul, Int.reduceNeg, Int.reduceToNat, Nat.reduceMul, Nat.reduceLT, Nat.reduceEqDiff, and_self, ite_true, ite_false, zx1, zx2, zRecv, List.length_cons, List.length_nil, ne_eq, not_true_eq_false, not_false_eq_true, true_or, or_true, or_false, false_or, and_false, false_and, zf01, zf10, reduceCtorEq, zSw_c, zSw_n, zm_r, zit_T, zit_F, false_implies, true_implies, zc_355])
  rw [h5]
  refine zif (fun c1 => ?_) (fun c1 => ?_)
  · have e := hA j (by omega)
    have et := toS_t (L := L) j (by omega)
    rw [dif_pos (show j < L.length by omega)] at et
    have i1 := toS_in (l := L.take j) (fun y hy => hin.2 y (List.mem_of_mem_take hy))
    have i2 := toS_in (l := L.take (j + 1)) (fun y hy => hin.2 y (List.mem_of_mem_take hy))
    rw [List.length_take] at i1 i2
    rw [e.2.1, et]
    exact ⟨⟨by omega, zI_s (by omega) (by omega)⟩, zI_s (by omega) (by omega), L.length - (j + 1), by omega, j + 1, rfl, by omega, _, _, rfl⟩
  have ej : j = L.length := by omega
  subst ej
  rw [List.take_length]
  refine zLoop.up M (fun s ρ μ3 => ∃ x5 x6 : zV, ρ = [vr 355, vi x, vi (toS L), vi ((M : Int) - 1), vi ((M : Int) - 1 - s), x5, x6] ∧ (∀ b : Nat, M - s ≤ b → b < M → μ3 375 b = lnR L (puA A) (L.length - pcN 8 b) b) ∧ zfc [375] μ2 μ3) ⟨_, _, by rw [Int.natCast_zero, Int.sub_zero], fun b q1 q2 => by omega, zfc.rf⟩ ?_
  rintro s ρ μ3 hs ⟨x5, x6, rfl, hT, hF3⟩
  have k355 : μ3 355 = μ2 355 := hF3 355 (by decide)
  have kA : LnM L μ3 := by
    unfold LnM
    rw [hF3 371 (by decide), hF3 372 (by decide), hF3 373 (by decide), hF3 374 (by decide)]
    exact hA
  have k5 : μ3 355 34 = (L.length : Int) := by rw [k355]; exact h5
  have kp : ∀ p : Int, 0 ≤ p → p < 7 → μ3 357 p = puA A p := fun p x y => by rw [hF3 357 (by decide)]; exact hpu p x y
  have kN : okO μ3 := okO_L kA k5 h8 hin.2 (by rw [hF3 357 (by decide)]; exact hP)
  (try simp only [zit_e, Bool.and_eq_true, Bool.or_eq_true, Bool.not_eq_true', Bool.and_eq_false_iff, Bool.or_eq_false_iff, Bool.not_eq_false', zbe, zdt, zdf, zb2_p, zbp_0, zbp_1, zbp_inj, zbp_01, Bool.true_eq_false, Bool.false_eq_true, true_and, and_true, Decidable.not_not, Classical.not_not, implies_true, List.nil_append, List.cons_append, List.append_assoc, Option.some.injEq, Sum.inl.injEq, zSw_c, zSw_n]); (try simp only [zit_e, Bool.and_eq_true, Bool.or_eq_true, Bool.not_eq_true', Bool.and_eq_false_iff, Bool.or_eq_false_iff, Bool.not_eq_false', zbe, zdt, zdf, zb2_p, zbp_0, zbp_1, zbp_inj, zbp_01, Bool.true_eq_false, Bool.false_eq_true, true_and, and_true, Decidable.not_not, Classical.not_not, implies_true, List.nil_append, List.cons_append, List.append_assoc, Option.some.injEq, Sum.inl.injEq, zSw_c, zSw_n, zc_355]); (try simp only [zi_cs, zi_c0, zii_cs, zii_c0, zl_cs, zl_c0, zll_cs, zll_c0, zr_cs, zr_c0, zrr_cs, zrr_c0, zxs_cs, zxs_c0, zxx_cs, zxx_c0, zfree_c0, zfree_c1, zfree_cs, zfree_cz, zlong_i, zlong_r, zlong_x, zset_0, zset_s, true_and, and_true, Option.some.injEq, Sum.inl.injEq, Sum.inr.injEq, zb2_p, zbp_0, zbp_1, zbp_inj, zbp_01, Nat.zero_add, Nat.reduceAdd, implies_true, List.nil_append, List.cons_append, List.append_assoc, Int.not_lt, Int.not_le, Decidable.not_not, Int.zero_add, Int.reduceLE, Int.reduceLT, Int.reduceEq, Int.reduceNe, Int.reduceAdd, Int.reduceSub, Int.reduceMul, Int.reduceNeg, Int.reduceToNat, Nat.reduceMul, Nat.reduceLT, Nat.reduceEqDiff, and_self, ite_true, ite_false, zx1, zx2, zRecv, List.length_cons, List.length_nil, ne_eq, not_true_eq_false, not_false_eq_true, true_or, or_true, or_false, false_or, and_false, false_and, zf01, zf10, reduceCtorEq, zSw_c, zSw_n, zm_r, zit_T, zit_F, false_implies, true_implies, zc_355])
  have hM8 : ∀ m b : Nat, m ≤ 8 → 0 ≤ lnR L (puA A) m b ∧ lnR L (puA A) m b ≤ 16777216 := fun m b hm7 => by
    have h1 := lnR_in (pu := puA A) h8 m b
    have h2 : 8 ^ m ≤ 8 ^ 8 := Nat.pow_le_pow_right (by decide) hm7
    have h3 : ((8 ^ m : Nat) : Int) ≤ ((8 ^ 8 : Nat) : Int) := Int.ofNat_le.mpr h2
    have h88 : ((8 ^ 8 : Nat) : Int) = 16777216 := by decide
    rw [h88] at h3
    exact ⟨h1.1, Int.le_trans h1.2 h3⟩
  refine zif (fun c2 => ?_) (fun c2 => ?_)
  · obtain ⟨b, hb⟩ : ∃ b : Nat, (M : Int) - 1 - s = b := ⟨_, (Int.toNat_of_nonneg c2).symm⟩
    have hbM : b < M := by omega
    rw [hb]
    refine ⟨by omega, by omega, ?_⟩
    refine zLoop.up L.length (fun i ρ μ4 => ρ = [vr 355, vi x, vi (toS L), vi ((M : Int) - 1), vi b, vi i, x6] ∧ μ4 375 b = zit ((b : Int) = (M : Int) - 1) 1 0 + rwS L (puA A) (lnR L (puA A) (L.length - pcN 8 b - 1)) b i ∧ (∀ b2 : Nat, M - s ≤ b2 → b2 < M → μ4 375 b2 = lnR L (puA A) (L.length - pcN 8 b2) b2) ∧ zfc [375] μ2 μ4) ⟨rfl, by rw [zm_s]; show _ = _ + 0; omega, fun b2 q1 q2 => by rw [zm_o (by omega)]; exact hT b2 q1 q2, hF3.zm (by decide)⟩ ?_
    rintro i ρ μ4 hi ⟨rfl, hb4, hT4, hF4⟩
    have j355 : μ4 355 = μ2 355 := hF4 355 (by decide)
    have jA : LnM L μ4 := by
      unfold LnM
      rw [hF4 371 (by decide), hF4 372 (by decide), hF4 373 (by decide), hF4 374 (by decide)]
      exact hA
    have j5 : μ4 355 34 = (L.length : Int) := by rw [j355]; exact h5
    have jp : ∀ p : Int, 0 ≤ p → p < 7 → μ4 357 p = puA A p := fun p x y => by rw [hF4 357 (by decide)]; exact hpu p x y
    have jN : okO μ4 := okO_L jA j5 h8 hin.2 (by rw [hF4 357 (by decide)]; exact hP)
    (try simp only [zit_e, Bool.and_eq_true, Bool.or_eq_true, Bool.not_eq_true', Bool.and_eq_false_iff, Bool.or_eq_false_iff, Bool.not_eq_false', zbe, zdt, zdf, zb2_p, zbp_0, zbp_1, zbp_inj, zbp_01, Bool.true_eq_false, Bool.false_eq_true, true_and, and_true, Decidable.not_not, Classical.not_not, implies_true, List.nil_append, List.cons_append, List.append_assoc, Option.some.injEq, Sum.inl.injEq, zSw_c, zSw_n]); (try simp only [zit_e, Bool.and_eq_true, Bool.or_eq_true, Bool.not_eq_true', Bool.and_eq_false_iff, Bool.or_eq_false_iff, Bool.not_eq_false', zbe, zdt, zdf, zb2_p, zbp_0, zbp_1, zbp_inj, zbp_01, Bool.true_eq_false, Bool.false_eq_true, true_and, and_true, Decidable.not_not, Classical.not_not, implies_true, List.nil_append, List.cons_append, List.append_assoc, Option.some.injEq, Sum.inl.injEq, zSw_c, zSw_n, zc_355, f_M_mayLend, g_M_mayLend]); (try simp only [zi_cs, zi_c0, zii_cs, zii_c0, zl_cs, zl_c0, zll_cs, zll_c0, zr_cs, zr_c0, zrr_cs, zrr_c0, zxs_cs, zxs_c0, zxx_cs, zxx_c0, zfree_c0, zfree_c1, zfree_cs, zfree_cz, zlong_i, zlong_r, zlong_x, zset_0, zset_s, true_and, and_true, Option.some.injEq, Sum.inl.injEq, Sum.inr.injEq, zb2_p, zbp_0, zbp_1, zbp_inj, zbp_01, Nat.zero_add, Nat.reduceAdd, implies_true, List.nil_append, List.cons_append, List.append_assoc, Int.not_lt, Int.not_le, Decidable.not_not, Int.zero_add, Int.reduceLE, Int.reduceLT, Int.reduceEq, Int.reduceNe, Int.reduceAdd, Int.reduceSub, Int.reduceMul, Int.reduceNeg, Int.reduceToNat, Nat.reduceMul, Nat.reduceLT, Nat.reduceEqDiff, and_self, ite_true, ite_false, zx1, zx2, zRecv, List.length_cons, List.length_nil, ne_eq, not_true_eq_false, not_false_eq_true, true_or, or_true, or_false, false_or, and_false, false_and, zf01, zf10, reduceCtorEq, zSw_c, zSw_n, zm_r, zit_T, zit_F, false_implies, true_implies, zc_355, f_M_mayLend, g_M_mayLend])
    rw [j5]
    have r1 := rwS_in (L := L) (pu := puA A) (f := lnR L (puA A) (L.length - pcN 8 b - 1)) (b := b) (M := 16777216) (by decide) (fun x => hM8 _ x (by omega))
    have ri := r1 i
    have ri1 := r1 (i + 1)
    have es : rwS L (puA A) (lnR L (puA A) (L.length - pcN 8 b - 1)) b (i + 1) = rwS L (puA A) (lnR L (puA A) (L.length - pcN 8 b - 1)) b i + zit (lcS L (puA A) b i) (lnR L (puA A) (L.length - pcN 8 b - 1) (b + 2 ^ i)) 0 := rfl
    have hz1 : 0 ≤ zit ((b : Int) = (M : Int) - 1) 1 0 ∧ zit ((b : Int) = (M : Int) - 1) 1 0 ≤ 1 := by
      unfold zit
      split <;> omega
    refine zif (fun c3 => ?_) (fun c3 => ?_)
    · have hlc := lcR_S jA j5 hin.2 jp (b := b) (i := i) (by omega)
      have hgo : lcS L (puA A) b i → zor (b : Int) (zshl 1 (i : Int)) = ((b + 2 ^ i : Nat) : Int) ∧ b + 2 ^ i < 256 ∧ μ4 375 ((b + 2 ^ i : Nat) : Int) = lnR L (puA A) (L.length - pcN 8 b - 1) (b + 2 ^ i) := fun q => by
        have hz := zor_set (c := b) (i := i) (by omega) (by omega) q.1
        have hkt : b.testBit i = false := by
          cases r : b.testBit i with
          | false => rfl
          | true => exact absurd (zbit_n.mpr r) q.1
        have hlt := sub_all h8 (by omega) (show i < L.length by omega) hkt
        have hpi : 1 ≤ 2 ^ i := Nat.one_le_two_pow
        have hT1 := hT4 (b + 2 ^ i) (by omega) (by omega)
        rw [hz.2.1, show L.length - (pcN 8 b + 1) = L.length - pcN 8 b - 1 by omega] at hT1
        exact ⟨hz.1, hz.2.2, hT1⟩
      have ev : zit (lcR μ4 b i) (μ4 375 (zor (b : Int) (zshl 1 (i : Int)))) 0 = zit (lcS L (puA A) b i) (lnR L (puA A) (L.length - pcN 8 b - 1) (b + 2 ^ i)) 0 := by
        by_cases q : lcS L (puA A) b i
        · rw [zit_t q, zit_t (hlc.mpr q), (hgo q).1, (hgo q).2.2]
        · rw [zit_f q, zit_f (fun z => q (hlc.mp z))]
      have hbnd : lcR μ4 b i → 0 ≤ zor (b : Int) (zshl 1 (i : Int)) ∧ zor (b : Int) (zshl 1 (i : Int)) < 256 := fun q => by
        have := hgo (hlc.mp q)
        rw [this.1]
        exact ⟨Int.natCast_nonneg _, (Int.ofNat_lt.mpr this.2.1 : ((b + 2 ^ i : Nat) : Int) < ((256 : Nat) : Int))⟩
      rw [ev, hb4]
      refine ⟨by omega, by omega, ⟨⟨jN, by omega, by omega⟩, hbnd⟩, ?_, zI_s (by omega) (by omega), L.length - (i + 1), by omega, i + 1, rfl, by omega, rfl, by rw [es, Int.add_assoc], fun b2 q1 q2 => ?_, hF4.zm (by decide)⟩
      · rw [Int.add_assoc, ← es]
        exact zI_s (by omega) (by omega)
      · rw [zit_f (by omega)]
        exact hT4 b2 q1 q2
    · have ei : i = L.length := by omega
      subst ei
      have hsum : μ4 375 b = lnR L (puA A) (L.length - pcN 8 b) b := by
        rw [hb4]
        by_cases q : (b : Int) = (M : Int) - 1
        · have hbM1 : b = M - 1 := by omega
          rw [zit_t q, rwS_0 (fun i hi2 hl => hl.1 ?_) _ (Nat.le_refl _), hbM1, hall.1, Nat.sub_self]
          · rfl
          · rw [zbit_n, hbM1, ← hM, Nat.testBit_two_pow_sub_one]
            exact decide_eq_true hi2
        · have hpc : pcN 8 b < L.length := by
            have h1 := pc_le (n := L.length) (c := b) h8 (by omega)
            rcases Nat.lt_or_ge (pcN 8 b) L.length with z | z
            · exact z
            · have := hall.2 b (by omega) (by omega)
              omega
          rw [zit_f q, Int.zero_add]
          obtain ⟨m, hm2⟩ : ∃ m, L.length - pcN 8 b = m + 1 := ⟨L.length - pcN 8 b - 1, by omega⟩
          rw [hm2, Nat.add_sub_cancel]
          rfl
      refine ⟨zI_s (by omega) (by omega), M - (s + 1), by omega, s + 1, rfl, by omega, _, _, by rw [show (b : Int) + -1 = (M : Int) - 1 - ((s + 1 : Nat) : Int) by omega], fun b2 q1 q2 => ?_, hF4⟩
      by_cases eb : b2 = b
      · rw [eb]
        exact hsum
      · exact hT4 b2 (by omega) q2
  · have e0 := hT 0 (by omega) (by omega)
    have ez : ((0 : Nat) : Int) = 0 := rfl
    rw [ez, show pcN 8 0 = 0 by decide, Nat.sub_zero] at e0
    have hm3 : HC μ μ3 := hm.tr (hF3.hc (by simp))
    have hk3 : KM μ μ3 := hk.tr (hF3.km (by simp [scM]) (fun j _ => by rw [k355]))
    rw [e0, k5]
    refine zif (fun c3 => ?_) (fun c3 => ?_)
    · refine ⟨?_, hm3, hk3⟩
      by_cases q0 : x = 0
      · rw [zit_t q0, zit_t q0]
      rw [zit_f q0, zit_f q0]
      by_cases q1 : x = 1
      · rw [zit_t q1, zit_t q1]
      rw [zit_f q1, zit_f q1, zit_t (by omega)]
    rw [zit_f (show ¬ x = 0 by omega), zit_f (show ¬ x = 1 by omega), zit_f (show ¬ x = 2 by omega)]
    refine zif (fun c4 => ?_) (fun c4 => ?_)
    · rw [zit_f (fun q => q.2.2 c4)]
      exact ⟨rfl, hm3, hk3⟩
    rw [zit_t ⟨by omega, by omega, c4⟩]
    have hfr := frP_S h8 (show 0 < lnR L (puA A) L.length 0 by omega)
    have hiff : ∀ b k : Nat, b < M → k < L.length → ((lcR μ3 b k → zor (b : Int) (zshl 1 (k : Int)) = ((b + 2 ^ k : Nat) : Int) ∧ b + 2 ^ k < 256) ∧ ((lcR μ3 b k ∧ ¬ μ3 375 (zor (b : Int) (zshl 1 (k : Int))) = 0) ↔ nxS L (puA A) b k)) := by
      intro b k hb hkl
      have hlc := lcR_S kA k5 hin.2 kp (b := b) (i := k) hkl
      have hgo : lcS L (puA A) b k → (zor (b : Int) (zshl 1 (k : Int)) = ((b + 2 ^ k : Nat) : Int) ∧ b + 2 ^ k < 256) ∧ μ3 375 (zor (b : Int) (zshl 1 (k : Int))) = lnR L (puA A) (L.length - pcN 8 (b + 2 ^ k)) (b + 2 ^ k) := fun q => by
        have hz := zor_set (c := b) (i := k) (by omega) (by omega) q.1
        have hkt : b.testBit k = false := by
          cases r : b.testBit k with
          | false => rfl
          | true => exact absurd (zbit_n.mpr r) q.1
        have hlt := sub_all h8 (by omega) (show k < L.length by omega) hkt
        refine ⟨⟨hz.1, hz.2.2⟩, ?_⟩
        rw [hz.1]
        exact hT (b + 2 ^ k) (by rw [show M - s = 0 by omega]; exact Nat.zero_le _) (hM ▸ hlt)
      refine ⟨fun q => (hgo (hlc.mp q)).1, ?_⟩
      unfold nxS
      constructor
      · rintro ⟨q1, q2⟩
        have q1 := hlc.mp q1
        have q3 := (hM8 (L.length - pcN 8 (b + 2 ^ k)) (b + 2 ^ k) (by omega)).1
        rw [(hgo q1).2] at q2
        exact ⟨q1, by omega⟩
      · rintro ⟨q1, q2⟩
        rw [(hgo q1).2]
        exact ⟨hlc.mpr q1, by omega⟩
    generalize hP2 : nxS L (puA A) = P at *
    refine zLoop.up ((x - 3).toNat + 1) (fun p ρ μ4 => ∃ k' : Int, ρ = [vr 355, vi x, vi (toS L), vi ((M : Int) - 1), vi ((frP P L.length p).1 : Int), vi k', vi (3 + p)] ∧ (p ≠ 0 → k' = (frP P L.length p).2) ∧ μ3 = μ4) ⟨0, rfl, fun q => absurd rfl q, rfl⟩ ?_
    rintro p ρ μ4 hp ⟨k', rfl, hk', rfl⟩
    (try simp only [zit_e, Bool.and_eq_true, Bool.or_eq_true, Bool.not_eq_true', Bool.and_eq_false_iff, Bool.or_eq_false_iff, Bool.not_eq_false', zbe, zdt, zdf, zb2_p, zbp_0, zbp_1, zbp_inj, zbp_01, Bool.true_eq_false, Bool.false_eq_true, true_and, and_true, Decidable.not_not, Classical.not_not, implies_true, List.nil_append, List.cons_append, List.append_assoc, Option.some.injEq, Sum.inl.injEq, zSw_c, zSw_n]); (try simp only [zit_e, Bool.and_eq_true, Bool.or_eq_true, Bool.not_eq_true', Bool.and_eq_false_iff, Bool.or_eq_false_iff, Bool.not_eq_false', zbe, zdt, zdf, zb2_p, zbp_0, zbp_1, zbp_inj, zbp_01, Bool.true_eq_false, Bool.false_eq_true, true_and, and_true, Decidable.not_not, Classical.not_not, implies_true, List.nil_append, List.cons_append, List.append_assoc, Option.some.injEq, Sum.inl.injEq, zSw_c, zSw_n, zc_355]); (try simp only [zi_cs, zi_c0, zii_cs, zii_c0, zl_cs, zl_c0, zll_cs, zll_c0, zr_cs, zr_c0, zrr_cs, zrr_c0, zxs_cs, zxs_c0, zxx_cs, zxx_c0, zfree_c0, zfree_c1, zfree_cs, zfree_cz, zlong_i, zlong_r, zlong_x, zset_0, zset_s, true_and, and_true, Option.some.injEq, Sum.inl.injEq, Sum.inr.injEq, zb2_p, zbp_0, zbp_1, zbp_inj, zbp_01, Nat.zero_add, Nat.reduceAdd, implies_true, List.nil_append, List.cons_append, List.append_assoc, Int.not_lt, Int.not_le, Decidable.not_not, Int.zero_add, Int.reduceLE, Int.reduceLT, Int.reduceEq, Int.reduceNe, Int.reduceAdd, Int.reduceSub, Int.reduceMul, Int.reduceNeg, Int.reduceToNat, Nat.reduceMul, Nat.reduceLT, Nat.reduceEqDiff, and_self, ite_true, ite_false, zx1, zx2, zRecv, List.length_cons, List.length_nil, ne_eq, not_true_eq_false, not_false_eq_true, true_or, or_true, or_false, false_or, and_false, false_and, zf01, zf10, reduceCtorEq, zSw_c, zSw_n, zm_r, zit_T, zit_F, false_implies, true_implies, zc_355])
    refine zif (fun c5 => ?_) (fun c5 => ?_)
    · obtain ⟨⟨g1, g2, g3⟩, g4⟩ := hfr p (by omega)
      obtain ⟨g5, g6, g7⟩ := g4 (by omega)
      have eb : (frP P L.length (p + 1)).1 = (frP P L.length p).1 + 2 ^ (chS P L.length (frP P L.length p).1).toNat := rfl
      have ec : (frP P L.length (p + 1)).2 = chS P L.length (frP P L.length p).1 := rfl
      generalize (frP P L.length p).1 = b at *
      refine zLoop.up L.length (fun k ρ μ4 => ρ = [vr 355, vi x, vi (toS L), vi ((M : Int) - 1), vi (b : Int), vi k, vi (3 + p)] ∧ μ3 = μ4 ∧ chS P L.length b = fstN (fun k => P b k.toNat) (L.length - k) k) ⟨rfl, rfl, rfl⟩ ?_
      rintro k ρ μ4 hkl ⟨rfl, rfl, hch⟩
      have hkn : k < L.length := by
        rcases Nat.lt_or_ge k L.length with z | z
        · exact z
        · rw [show L.length - k = 0 by omega, fstN] at hch
          omega
      rw [fstN_s hkn, Int.toNat_natCast] at hch
      obtain ⟨i1, i2⟩ := hiff b k (by omega) hkn
      (try simp only [zit_e, Bool.and_eq_true, Bool.or_eq_true, Bool.not_eq_true', Bool.and_eq_false_iff, Bool.or_eq_false_iff, Bool.not_eq_false', zbe, zdt, zdf, zb2_p, zbp_0, zbp_1, zbp_inj, zbp_01, Bool.true_eq_false, Bool.false_eq_true, true_and, and_true, Decidable.not_not, Classical.not_not, implies_true, List.nil_append, List.cons_append, List.append_assoc, Option.some.injEq, Sum.inl.injEq, zSw_c, zSw_n]); (try simp only [zit_e, Bool.and_eq_true, Bool.or_eq_true, Bool.not_eq_true', Bool.and_eq_false_iff, Bool.or_eq_false_iff, Bool.not_eq_false', zbe, zdt, zdf, zb2_p, zbp_0, zbp_1, zbp_inj, zbp_01, Bool.true_eq_false, Bool.false_eq_true, true_and, and_true, Decidable.not_not, Classical.not_not, implies_true, List.nil_append, List.cons_append, List.append_assoc, Option.some.injEq, Sum.inl.injEq, zSw_c, zSw_n, zc_355, f_M_mayLend, g_M_mayLend]); (try simp only [zi_cs, zi_c0, zii_cs, zii_c0, zl_cs, zl_c0, zll_cs, zll_c0, zr_cs, zr_c0, zrr_cs, zrr_c0, zxs_cs, zxs_c0, zxx_cs, zxx_c0, zfree_c0, zfree_c1, zfree_cs, zfree_cz, zlong_i, zlong_r, zlong_x, zset_0, zset_s, true_and, and_true, Option.some.injEq, Sum.inl.injEq, Sum.inr.injEq, zb2_p, zbp_0, zbp_1, zbp_inj, zbp_01, Nat.zero_add, Nat.reduceAdd, implies_true, List.nil_append, List.cons_append, List.append_assoc, Int.not_lt, Int.not_le, Decidable.not_not, Int.zero_add, Int.reduceLE, Int.reduceLT, Int.reduceEq, Int.reduceNe, Int.reduceAdd, Int.reduceSub, Int.reduceMul, Int.reduceNeg, Int.reduceToNat, Nat.reduceMul, Nat.reduceLT, Nat.reduceEqDiff, and_self, ite_true, ite_false, zx1, zx2, zRecv, List.length_cons, List.length_nil, ne_eq, not_true_eq_false, not_false_eq_true, true_or, or_true, or_false, false_or, and_false, false_and, zf01, zf10, reduceCtorEq, zSw_c, zSw_n, zm_r, zit_T, zit_F, false_implies, true_implies, zc_355, f_M_mayLend, g_M_mayLend])
      rw [k5]
      have hz5 : zptr 355 33 = 375 := by decide +kernel
      refine ⟨⟨⟨kN, by omega, by omega⟩, fun q => ?_⟩, ?_⟩
      · rw [(i1 q).1]
        exact ⟨Int.natCast_nonneg _, (Int.ofNat_lt.mpr (i1 q).2 : ((b + 2 ^ k : Nat) : Int) < ((256 : Nat) : Int))⟩
      refine zif (fun c6 => ?_) (fun c6 => ?_)
      all_goals rw [zbp_0, hz5] at c6
      · have hnP : ¬ P b k := fun q => by
          have := i2.mpr q
          rcases c6 with z | z
          · exact z this.1
          · exact this.2 z
        rw [zit_f hnP] at hch
        exact ⟨zI_s (by omega) (by omega), L.length - (k + 1), by omega, k + 1, rfl, by omega, rfl, hch⟩
      · have hy : lcR μ3 b k ∧ ¬ μ3 375 (zor (b : Int) (zshl 1 (k : Int))) = 0 := ⟨Classical.byContradiction (fun q => c6 (Or.inl q)), fun q => c6 (Or.inr q)⟩
        rw [zit_t (i2.mp hy)] at hch
        refine ⟨zI_s (by omega) (by omega), (x - 3).toNat + 1 - (p + 1), by omega, p + 1, rfl, by omega, k, ?_, fun _ => by rw [ec, hch]⟩
        rw [eb, hch, Int.toNat_natCast, (i1 hy.1).1]
        rfl
    · have ep : p = (x - 3).toNat + 1 := by omega
      subst ep
      rw [hk' (by omega)]
      obtain ⟨⟨g1, g2, g3⟩, g4⟩ := hfr (x - 3).toNat (by omega)
      obtain ⟨g5, g6, g7⟩ := g4 (by omega)
      have ec : (frP P L.length ((x - 3).toNat + 1)).2 = chS P L.length (frP P L.length (x - 3).toNat).1 := rfl
      rw [ec]
      have := kA (chS P L.length (frP P L.length (x - 3).toNat).1).toNat (by omega)
      rw [Int.toNat_of_nonneg g5] at this
      exact ⟨by omega, this.2.2, hm3, hk3⟩
theorem LC_lendings {x : Int} (hx : zI x) : LC y_D_lendings y_M_lendings [vi x] := LC.tv (f := fun Z F A w V S => zit (x < 0) (-1) (lnA Z F A w V x)) (fun μ Z F A w V S h hV hS => zCw.use (q_D_lendings (d := 100) (by decide) hx h hV) (by decide) (fun q μ' e => e)) (fun μ Z F A w V S h hV hS => zCw.use (q_M_lendings (d := 100) (by decide) hx h hV) (by decide) (fun q μ' e => e))

