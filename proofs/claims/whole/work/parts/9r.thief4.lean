/-! thieves: the reference's search -/
def BtM (B : Bt) (μ : zMem) : Prop := match B with
  | none => μ 355 39 = -1
  | some (p, s) => μ 355 38 = p ∧ μ 355 39 = s ∧ 0 ≤ s ∧ s < 65536
theorem BtM.i {B : Bt} {μ : zMem} (hB : BtM B μ) (p c : Int) : (¬ μ 355 39 = -1 → 0 ≤ μ 355 39 ∧ μ 355 39 < 2147483648) ∧ ((¬ μ 355 39 = -1 ∧ (μ 355 38 < p ∨ p = μ 355 38 ∧ onN (μ 355 39) 16 ≤ onN c 16)) ↔ ¬ btS B p c) := by
  rcases B with _ | ⟨bp, bs⟩
  · have h : μ 355 39 = -1 := hB
    exact ⟨fun q => absurd h q, fun q => absurd h q.1, fun q => absurd trivial q⟩
  · obtain ⟨h2, h3, h4⟩ : μ 355 38 = bp ∧ μ 355 39 = bs ∧ 0 ≤ bs ∧ bs < 65536 := hB
    rw [h2, h3]
    have e : btS (some (bp, bs)) p c ↔ (p < bp ∨ p = bp ∧ onN c 16 < onN bs 16) := Iff.rfl
    rw [e]
    refine ⟨fun _ => by omega, fun q => by omega, fun q => ⟨by omega, by omega⟩⟩
theorem BtM.k {B : Bt} {μ μ' : zMem} (hB : BtM B μ) (h1 : μ' 355 38 = μ 355 38) (h2 : μ' 355 39 = μ 355 39) : BtM B μ' := by
  unfold BtM at *
  rw [h1, h2]
  exact hB
theorem nk_12_40 : zNk 12 40 = none := rfl
theorem fl_M_430 : zFl "DebtDoorsModel" 430 12 39 := ⟨_, rfl, by decide, (zTb_in 1365 (by decide +kernel) (by decide +kernel)), rfl⟩
theorem fp_12_39 : zFp 12 39 0 := ⟨_, rfl, rfl, rfl, by decide⟩
theorem nk_12_39 : zNk 12 39 = some 0 := rfl
theorem fl_M_433 : zFl "DebtDoorsModel" 433 12 38 := ⟨_, rfl, by decide, (zTb_in 1364 (by decide +kernel) (by decide +kernel)), rfl⟩
theorem nk_12_38 : zNk 12 38 = some 0 := rfl
theorem m_M_ones : Cond.static y_M_ones.1 ∈ zTb ∧ Cond.initialized y_M_ones.1.cls ∈ zTb ∧ Cond.code y_M_ones.1 y_M_ones.2.1 y_M_ones.2.2.1 y_M_ones.2.2.2 ∈ zTb ∧ (y_M_ones.1.cls ≠ "java/lang/invoke/MethodHandle" ∧ y_M_ones.1.cls ≠ "java/lang/invoke/VarHandle" ∧ (parseMethodDescriptor y_M_ones.1.desc).map (fun d => d.parameters.length) = some 1) ∧ y_M_ones.2.2.1 ≤ 20 :=
  ⟨(zTb_in 1958 (by decide +kernel) (by decide +kernel)), (zTb_in 151 (by decide +kernel) (by decide +kernel)), (zTb_in 1959 (by decide +kernel) (by decide +kernel)), by decide +kernel, by decide +kernel⟩
theorem ls_M_436 : zLs "DebtDoorsModel" 436 y_M_ones 1 := Or.inl ⟨(zTb_in 1957 (by decide +kernel) (by decide +kernel)), m_M_ones⟩
theorem fp_12_38 : zFp 12 38 0 := ⟨_, rfl, rfl, rfl, by decide⟩
def y_M_findsThief : zMt := (⟨"DebtDoorsModel", "findsThief", "(III)V"⟩, prog_14_method_114_code, 11, none)
theorem d_M_findsThief_0 : decode prog_14_method_114_code 0 = .ok (.iconst 0, 1) := by decide +kernel
theorem d_M_findsThief_1 : decode prog_14_method_114_code 1 = .ok (.istore 4, 2) := by decide +kernel
theorem d_M_findsThief_3 : decode prog_14_method_114_code 3 = .ok (.iconst 0, 1) := by decide +kernel
theorem d_M_findsThief_4 : decode prog_14_method_114_code 4 = .ok (.istore 5, 2) := by decide +kernel
theorem d_M_findsThief_6 : decode prog_14_method_114_code 6 = .ok (.iload 5, 2) := by decide +kernel
theorem d_M_findsThief_8 : decode prog_14_method_114_code 8 = .ok (.aload_n 0, 1) := by decide +kernel
theorem d_M_findsThief_9 : decode prog_14_method_114_code 9 = .ok (.invokevirtual 137, 3) := by decide +kernel
theorem d_M_findsThief_12 : decode prog_14_method_114_code 12 = .ok (.if_icmp .ge 69, 3) := by decide +kernel
theorem d_M_findsThief_15 : decode prog_14_method_114_code 15 = .ok (.aload_n 0, 1) := by decide +kernel
theorem d_M_findsThief_16 : decode prog_14_method_114_code 16 = .ok (.getfield 92, 3) := by decide +kernel
theorem d_M_findsThief_19 : decode prog_14_method_114_code 19 = .ok (.iload 5, 2) := by decide +kernel
theorem d_M_findsThief_21 : decode prog_14_method_114_code 21 = .ok (.aload_n 0, 1) := by decide +kernel
theorem d_M_findsThief_22 : decode prog_14_method_114_code 22 = .ok (.iload 5, 2) := by decide +kernel
theorem d_M_findsThief_24 : decode prog_14_method_114_code 24 = .ok (.invokevirtual 172, 3) := by decide +kernel
theorem d_M_findsThief_27 : decode prog_14_method_114_code 27 = .ok (.iastore, 1) := by decide +kernel
theorem d_M_findsThief_28 : decode prog_14_method_114_code 28 = .ok (.iload 4, 2) := by decide +kernel
theorem d_M_findsThief_30 : decode prog_14_method_114_code 30 = .ok (.aload_n 0, 1) := by decide +kernel
theorem d_M_findsThief_31 : decode prog_14_method_114_code 31 = .ok (.getfield 24, 3) := by decide +kernel
theorem d_M_findsThief_34 : decode prog_14_method_114_code 34 = .ok (.bipush 7, 2) := by decide +kernel
theorem d_M_findsThief_36 : decode prog_14_method_114_code 36 = .ok (.iconst 4, 1) := by decide +kernel
theorem d_M_findsThief_37 : decode prog_14_method_114_code 37 = .ok (.iload 5, 2) := by decide +kernel
theorem d_M_findsThief_39 : decode prog_14_method_114_code 39 = .ok (.imul, 1) := by decide +kernel
theorem d_M_findsThief_40 : decode prog_14_method_114_code 40 = .ok (.iadd, 1) := by decide +kernel
theorem d_M_findsThief_41 : decode prog_14_method_114_code 41 = .ok (.iaload, 1) := by decide +kernel
theorem d_M_findsThief_42 : decode prog_14_method_114_code 42 = .ok (.iload_n 2, 1) := by decide +kernel
theorem d_M_findsThief_43 : decode prog_14_method_114_code 43 = .ok (.if_icmp .ne 28, 3) := by decide +kernel
theorem d_M_findsThief_46 : decode prog_14_method_114_code 46 = .ok (.aload_n 0, 1) := by decide +kernel
theorem d_M_findsThief_47 : decode prog_14_method_114_code 47 = .ok (.getfield 24, 3) := by decide +kernel
theorem d_M_findsThief_50 : decode prog_14_method_114_code 50 = .ok (.bipush 7, 2) := by decide +kernel
theorem d_M_findsThief_52 : decode prog_14_method_114_code 52 = .ok (.iconst 4, 1) := by decide +kernel
theorem d_M_findsThief_53 : decode prog_14_method_114_code 53 = .ok (.iload 5, 2) := by decide +kernel
theorem d_M_findsThief_55 : decode prog_14_method_114_code 55 = .ok (.imul, 1) := by decide +kernel
theorem d_M_findsThief_56 : decode prog_14_method_114_code 56 = .ok (.iadd, 1) := by decide +kernel
theorem d_M_findsThief_57 : decode prog_14_method_114_code 57 = .ok (.iconst 1, 1) := by decide +kernel
theorem d_M_findsThief_58 : decode prog_14_method_114_code 58 = .ok (.iadd, 1) := by decide +kernel
theorem d_M_findsThief_59 : decode prog_14_method_114_code 59 = .ok (.iaload, 1) := by decide +kernel
theorem d_M_findsThief_60 : decode prog_14_method_114_code 60 = .ok (.iload_n 1, 1) := by decide +kernel
theorem d_M_findsThief_61 : decode prog_14_method_114_code 61 = .ok (.if_icmp .eq 10, 3) := by decide +kernel
theorem d_M_findsThief_64 : decode prog_14_method_114_code 64 = .ok (.iconst 1, 1) := by decide +kernel
theorem d_M_findsThief_65 : decode prog_14_method_114_code 65 = .ok (.iload 5, 2) := by decide +kernel
theorem d_M_findsThief_67 : decode prog_14_method_114_code 67 = .ok (.ishl, 1) := by decide +kernel
theorem d_M_findsThief_68 : decode prog_14_method_114_code 68 = .ok (.goto 4, 3) := by decide +kernel
theorem d_M_findsThief_71 : decode prog_14_method_114_code 71 = .ok (.iconst 0, 1) := by decide +kernel
theorem d_M_findsThief_72 : decode prog_14_method_114_code 72 = .ok (.ior, 1) := by decide +kernel
theorem d_M_findsThief_73 : decode prog_14_method_114_code 73 = .ok (.istore 4, 2) := by decide +kernel
theorem d_M_findsThief_75 : decode prog_14_method_114_code 75 = .ok (.iinc 5 1, 3) := by decide +kernel
theorem d_M_findsThief_78 : decode prog_14_method_114_code 78 = .ok (.goto (-72), 3) := by decide +kernel
theorem d_M_findsThief_81 : decode prog_14_method_114_code 81 = .ok (.aload_n 0, 1) := by decide +kernel
theorem d_M_findsThief_82 : decode prog_14_method_114_code 82 = .ok (.iload_n 2, 1) := by decide +kernel
theorem d_M_findsThief_83 : decode prog_14_method_114_code 83 = .ok (.iload_n 1, 1) := by decide +kernel
theorem d_M_findsThief_84 : decode prog_14_method_114_code 84 = .ok (.invokevirtual 178, 3) := by decide +kernel
theorem d_M_findsThief_87 : decode prog_14_method_114_code 87 = .ok (.istore 5, 2) := by decide +kernel
theorem d_M_findsThief_89 : decode prog_14_method_114_code 89 = .ok (.aload_n 0, 1) := by decide +kernel
theorem d_M_findsThief_90 : decode prog_14_method_114_code 90 = .ok (.iload_n 1, 1) := by decide +kernel
theorem d_M_findsThief_91 : decode prog_14_method_114_code 91 = .ok (.iload_n 2, 1) := by decide +kernel
theorem d_M_findsThief_92 : decode prog_14_method_114_code 92 = .ok (.invokevirtual 178, 3) := by decide +kernel
theorem d_M_findsThief_95 : decode prog_14_method_114_code 95 = .ok (.istore 6, 2) := by decide +kernel
theorem d_M_findsThief_97 : decode prog_14_method_114_code 97 = .ok (.aload_n 0, 1) := by decide +kernel
theorem d_M_findsThief_98 : decode prog_14_method_114_code 98 = .ok (.iconst (-1), 1) := by decide +kernel
theorem d_M_findsThief_99 : decode prog_14_method_114_code 99 = .ok (.putfield 430, 3) := by decide +kernel
theorem d_M_findsThief_102 : decode prog_14_method_114_code 102 = .ok (.iconst 0, 1) := by decide +kernel
theorem d_M_findsThief_103 : decode prog_14_method_114_code 103 = .ok (.istore 7, 2) := by decide +kernel
theorem d_M_findsThief_105 : decode prog_14_method_114_code 105 = .ok (.iload 7, 2) := by decide +kernel
theorem d_M_findsThief_107 : decode prog_14_method_114_code 107 = .ok (.iconst 1, 1) := by decide +kernel
theorem d_M_findsThief_108 : decode prog_14_method_114_code 108 = .ok (.aload_n 0, 1) := by decide +kernel
theorem d_M_findsThief_109 : decode prog_14_method_114_code 109 = .ok (.invokevirtual 137, 3) := by decide +kernel
theorem d_M_findsThief_112 : decode prog_14_method_114_code 112 = .ok (.ishl, 1) := by decide +kernel
theorem d_M_findsThief_113 : decode prog_14_method_114_code 113 = .ok (.if_icmp .ge 181, 3) := by decide +kernel
theorem d_M_findsThief_116 : decode prog_14_method_114_code 116 = .ok (.iload 7, 2) := by decide +kernel
theorem d_M_findsThief_118 : decode prog_14_method_114_code 118 = .ok (.iload 4, 2) := by decide +kernel
theorem d_M_findsThief_120 : decode prog_14_method_114_code 120 = .ok (.iconst (-1), 1) := by decide +kernel
theorem d_M_findsThief_121 : decode prog_14_method_114_code 121 = .ok (.ixor, 1) := by decide +kernel
theorem d_M_findsThief_122 : decode prog_14_method_114_code 122 = .ok (.iand, 1) := by decide +kernel
theorem d_M_findsThief_123 : decode prog_14_method_114_code 123 = .ok (.ifCond .eq 6, 3) := by decide +kernel
theorem d_M_findsThief_126 : decode prog_14_method_114_code 126 = .ok (.goto 162, 3) := by decide +kernel
theorem d_M_findsThief_129 : decode prog_14_method_114_code 129 = .ok (.iconst 0, 1) := by decide +kernel
theorem d_M_findsThief_130 : decode prog_14_method_114_code 130 = .ok (.istore 8, 2) := by decide +kernel
theorem d_M_findsThief_132 : decode prog_14_method_114_code 132 = .ok (.iconst 0, 1) := by decide +kernel
theorem d_M_findsThief_133 : decode prog_14_method_114_code 133 = .ok (.istore 9, 2) := by decide +kernel
theorem d_M_findsThief_135 : decode prog_14_method_114_code 135 = .ok (.iconst 0, 1) := by decide +kernel
theorem d_M_findsThief_136 : decode prog_14_method_114_code 136 = .ok (.istore 10, 2) := by decide +kernel
theorem d_M_findsThief_138 : decode prog_14_method_114_code 138 = .ok (.iload 10, 2) := by decide +kernel
theorem d_M_findsThief_140 : decode prog_14_method_114_code 140 = .ok (.aload_n 0, 1) := by decide +kernel
theorem d_M_findsThief_141 : decode prog_14_method_114_code 141 = .ok (.invokevirtual 137, 3) := by decide +kernel
theorem d_M_findsThief_144 : decode prog_14_method_114_code 144 = .ok (.if_icmp .ge 68, 3) := by decide +kernel
theorem d_M_findsThief_147 : decode prog_14_method_114_code 147 = .ok (.iload 8, 2) := by decide +kernel
theorem d_M_findsThief_149 : decode prog_14_method_114_code 149 = .ok (.iload 7, 2) := by decide +kernel
theorem d_M_findsThief_151 : decode prog_14_method_114_code 151 = .ok (.iload 10, 2) := by decide +kernel
theorem d_M_findsThief_153 : decode prog_14_method_114_code 153 = .ok (.invokestatic 406, 3) := by decide +kernel
theorem d_M_findsThief_156 : decode prog_14_method_114_code 156 = .ok (.ifCond .eq 20, 3) := by decide +kernel
theorem d_M_findsThief_159 : decode prog_14_method_114_code 159 = .ok (.aload_n 0, 1) := by decide +kernel
theorem d_M_findsThief_160 : decode prog_14_method_114_code 160 = .ok (.getfield 24, 3) := by decide +kernel
theorem d_M_findsThief_163 : decode prog_14_method_114_code 163 = .ok (.bipush 7, 2) := by decide +kernel
theorem d_M_findsThief_165 : decode prog_14_method_114_code 165 = .ok (.iconst 4, 1) := by decide +kernel
theorem d_M_findsThief_166 : decode prog_14_method_114_code 166 = .ok (.iload 10, 2) := by decide +kernel
theorem d_M_findsThief_168 : decode prog_14_method_114_code 168 = .ok (.imul, 1) := by decide +kernel
theorem d_M_findsThief_169 : decode prog_14_method_114_code 169 = .ok (.iadd, 1) := by decide +kernel
theorem d_M_findsThief_170 : decode prog_14_method_114_code 170 = .ok (.iconst 2, 1) := by decide +kernel
theorem d_M_findsThief_171 : decode prog_14_method_114_code 171 = .ok (.iadd, 1) := by decide +kernel
theorem d_M_findsThief_172 : decode prog_14_method_114_code 172 = .ok (.iaload, 1) := by decide +kernel
theorem d_M_findsThief_173 : decode prog_14_method_114_code 173 = .ok (.goto 4, 3) := by decide +kernel
theorem d_M_findsThief_176 : decode prog_14_method_114_code 176 = .ok (.iconst 0, 1) := by decide +kernel
theorem d_M_findsThief_177 : decode prog_14_method_114_code 177 = .ok (.iadd, 1) := by decide +kernel
theorem d_M_findsThief_178 : decode prog_14_method_114_code 178 = .ok (.istore 8, 2) := by decide +kernel
theorem d_M_findsThief_180 : decode prog_14_method_114_code 180 = .ok (.iload 9, 2) := by decide +kernel
theorem d_M_findsThief_182 : decode prog_14_method_114_code 182 = .ok (.iload 7, 2) := by decide +kernel
theorem d_M_findsThief_184 : decode prog_14_method_114_code 184 = .ok (.iload 10, 2) := by decide +kernel
theorem d_M_findsThief_186 : decode prog_14_method_114_code 186 = .ok (.invokestatic 406, 3) := by decide +kernel
theorem d_M_findsThief_189 : decode prog_14_method_114_code 189 = .ok (.ifCond .eq 13, 3) := by decide +kernel
theorem d_M_findsThief_192 : decode prog_14_method_114_code 192 = .ok (.aload_n 0, 1) := by decide +kernel
theorem d_M_findsThief_193 : decode prog_14_method_114_code 193 = .ok (.getfield 92, 3) := by decide +kernel
theorem d_M_findsThief_196 : decode prog_14_method_114_code 196 = .ok (.iload 10, 2) := by decide +kernel
theorem d_M_findsThief_198 : decode prog_14_method_114_code 198 = .ok (.iaload, 1) := by decide +kernel
theorem d_M_findsThief_199 : decode prog_14_method_114_code 199 = .ok (.goto 4, 3) := by decide +kernel
theorem d_M_findsThief_202 : decode prog_14_method_114_code 202 = .ok (.iconst 0, 1) := by decide +kernel
theorem d_M_findsThief_203 : decode prog_14_method_114_code 203 = .ok (.iadd, 1) := by decide +kernel
theorem d_M_findsThief_204 : decode prog_14_method_114_code 204 = .ok (.istore 9, 2) := by decide +kernel
theorem d_M_findsThief_206 : decode prog_14_method_114_code 206 = .ok (.iinc 10 1, 3) := by decide +kernel
theorem d_M_findsThief_209 : decode prog_14_method_114_code 209 = .ok (.goto (-71), 3) := by decide +kernel
theorem d_M_findsThief_212 : decode prog_14_method_114_code 212 = .ok (.aload_n 0, 1) := by decide +kernel
theorem d_M_findsThief_213 : decode prog_14_method_114_code 213 = .ok (.getfield 430, 3) := by decide +kernel
theorem d_M_findsThief_216 : decode prog_14_method_114_code 216 = .ok (.iconst (-1), 1) := by decide +kernel
theorem d_M_findsThief_217 : decode prog_14_method_114_code 217 = .ok (.if_icmp .eq 39, 3) := by decide +kernel
theorem d_M_findsThief_220 : decode prog_14_method_114_code 220 = .ok (.iload 9, 2) := by decide +kernel
theorem d_M_findsThief_222 : decode prog_14_method_114_code 222 = .ok (.aload_n 0, 1) := by decide +kernel
theorem d_M_findsThief_223 : decode prog_14_method_114_code 223 = .ok (.getfield 433, 3) := by decide +kernel
theorem d_M_findsThief_226 : decode prog_14_method_114_code 226 = .ok (.if_icmp .gt 62, 3) := by decide +kernel
theorem d_M_findsThief_229 : decode prog_14_method_114_code 229 = .ok (.iload 9, 2) := by decide +kernel
theorem d_M_findsThief_231 : decode prog_14_method_114_code 231 = .ok (.aload_n 0, 1) := by decide +kernel
theorem d_M_findsThief_232 : decode prog_14_method_114_code 232 = .ok (.getfield 433, 3) := by decide +kernel
theorem d_M_findsThief_235 : decode prog_14_method_114_code 235 = .ok (.if_icmp .ne 21, 3) := by decide +kernel
theorem d_M_findsThief_238 : decode prog_14_method_114_code 238 = .ok (.iload 7, 2) := by decide +kernel
theorem d_M_findsThief_240 : decode prog_14_method_114_code 240 = .ok (.invokestatic 436, 3) := by decide +kernel
theorem d_M_findsThief_243 : decode prog_14_method_114_code 243 = .ok (.aload_n 0, 1) := by decide +kernel
theorem d_M_findsThief_244 : decode prog_14_method_114_code 244 = .ok (.getfield 430, 3) := by decide +kernel
theorem d_M_findsThief_247 : decode prog_14_method_114_code 247 = .ok (.invokestatic 436, 3) := by decide +kernel
theorem d_M_findsThief_250 : decode prog_14_method_114_code 250 = .ok (.if_icmp .lt 6, 3) := by decide +kernel
theorem d_M_findsThief_253 : decode prog_14_method_114_code 253 = .ok (.goto 35, 3) := by decide +kernel
theorem d_M_findsThief_256 : decode prog_14_method_114_code 256 = .ok (.aload_n 0, 1) := by decide +kernel
theorem d_M_findsThief_257 : decode prog_14_method_114_code 257 = .ok (.iload_n 2, 1) := by decide +kernel
theorem d_M_findsThief_258 : decode prog_14_method_114_code 258 = .ok (.iload_n 1, 1) := by decide +kernel
theorem d_M_findsThief_259 : decode prog_14_method_114_code 259 = .ok (.iload 5, 2) := by decide +kernel
theorem d_M_findsThief_261 : decode prog_14_method_114_code 261 = .ok (.iload 8, 2) := by decide +kernel
theorem d_M_findsThief_263 : decode prog_14_method_114_code 263 = .ok (.iadd, 1) := by decide +kernel
theorem d_M_findsThief_264 : decode prog_14_method_114_code 264 = .ok (.iload 6, 2) := by decide +kernel
theorem d_M_findsThief_266 : decode prog_14_method_114_code 266 = .ok (.invokevirtual 338, 3) := by decide +kernel
theorem d_M_findsThief_269 : decode prog_14_method_114_code 269 = .ok (.iload_n 3, 1) := by decide +kernel
theorem d_M_findsThief_270 : decode prog_14_method_114_code 270 = .ok (.if_icmp .ge 6, 3) := by decide +kernel
theorem d_M_findsThief_273 : decode prog_14_method_114_code 273 = .ok (.goto 15, 3) := by decide +kernel
theorem d_M_findsThief_276 : decode prog_14_method_114_code 276 = .ok (.aload_n 0, 1) := by decide +kernel
theorem d_M_findsThief_277 : decode prog_14_method_114_code 277 = .ok (.iload 7, 2) := by decide +kernel
theorem d_M_findsThief_279 : decode prog_14_method_114_code 279 = .ok (.putfield 430, 3) := by decide +kernel
theorem d_M_findsThief_282 : decode prog_14_method_114_code 282 = .ok (.aload_n 0, 1) := by decide +kernel
theorem d_M_findsThief_283 : decode prog_14_method_114_code 283 = .ok (.iload 9, 2) := by decide +kernel
theorem d_M_findsThief_285 : decode prog_14_method_114_code 285 = .ok (.putfield 433, 3) := by decide +kernel
theorem d_M_findsThief_288 : decode prog_14_method_114_code 288 = .ok (.iinc 7 1, 3) := by decide +kernel
theorem d_M_findsThief_291 : decode prog_14_method_114_code 291 = .ok (.goto (-186), 3) := by decide +kernel
theorem d_M_findsThief_294 : decode prog_14_method_114_code 294 = .ok (.return_, 1) := by decide +kernel
def w_M_findsThief {d : Nat} (hd : 3 ≤ d) := (show SS ("DebtDoorsModel", prog_14_method_114_code, 11) (none) d 0 0 0 0 _ from (sS (p1 := 3) (sI (xE (rI d_M_findsThief_0 rfl)) d_M_findsThief_1 (by decide)) (sS (p1 := 81) (sS (p1 := 6) (sI (xE (rI d_M_findsThief_3 rfl)) d_M_findsThief_4 (by decide)) (sLp (ps := 75) (tt := 15) (pn := 81) (p1 := 0) (p2 := 0) (xC (rNot (rJ2 (tgt := 81) j_ge (rIl d_M_findsThief_6) (rV p_M_debts (Nat.le_trans (Nat.le_of_ble_eq_true rfl) hd) lv_M_137 (rAr rA0 (rAn 0 d_M_findsThief_8 rfl)) (by decide) d_M_findsThief_9) d_M_findsThief_12 (by decide)))) (sS (p1 := 28) (sAs (rFr fl_M_92 nk_12_40 (rAn 0 d_M_findsThief_15 rfl) d_M_findsThief_16) (rIl d_M_findsThief_19) (xV lv_M_172 (xA (rAi (rAr rA0 (rAn 0 d_M_findsThief_21 rfl)) (rIl d_M_findsThief_22))) (by decide) d_M_findsThief_24) d_M_findsThief_27) (sI (xE (r2 o_or (rIl d_M_findsThief_28) (rT2 (rAnd (mm := 46) (rNot (rJ2 (tgt := 71) j_ne (rIa (rFr fl_M_24 nk_12_2 (rAn 0 d_M_findsThief_30 rfl) d_M_findsThief_31) (r2 o_add (rB d_M_findsThief_34 rfl) (r2 o_mul (rI d_M_findsThief_36 rfl) (rIl d_M_findsThief_37) d_M_findsThief_39) d_M_findsThief_40) d_M_findsThief_41) (rIn 2 d_M_findsThief_42 rfl) d_M_findsThief_43 (by decide))) (rNot (rJ2 (tgt := 71) j_eq (rIa (rFr fl_M_24 nk_12_2 (rAn 0 d_M_findsThief_46 rfl) d_M_findsThief_47) (r2 o_add (r2 o_add (rB d_M_findsThief_50 rfl) (r2 o_mul (rI d_M_findsThief_52 rfl) (rIl d_M_findsThief_53) d_M_findsThief_55) d_M_findsThief_56) (rI d_M_findsThief_57 rfl) d_M_findsThief_58) d_M_findsThief_59) (rIn 1 d_M_findsThief_60 rfl) d_M_findsThief_61 (by decide)))) (rGoE (p2 := 72) (r2 o_shl (rI d_M_findsThief_64 rfl) (rIl d_M_findsThief_65) d_M_findsThief_67) d_M_findsThief_68 (by decide)) (rI d_M_findsThief_71 rfl)) d_M_findsThief_72)) d_M_findsThief_73 (by decide))) (sGo (pn := 6) (sInc d_M_findsThief_75 (by decide)) d_M_findsThief_78 (by decide)))) (sS (p1 := 89) (sI (xE (rV p_M_owed (Nat.le_trans (Nat.le_of_ble_eq_true rfl) hd) lv_M_178 (rAi (rAi (rAr rA0 (rAn 0 d_M_findsThief_81 rfl)) (rIn 2 d_M_findsThief_82 rfl)) (rIn 1 d_M_findsThief_83 rfl)) (by decide) d_M_findsThief_84)) d_M_findsThief_87 (by decide)) (sS (p1 := 97) (sI (xE (rV p_M_owed (Nat.le_trans (Nat.le_of_ble_eq_true rfl) hd) lv_M_178 (rAi (rAi (rAr rA0 (rAn 0 d_M_findsThief_89 rfl)) (rIn 1 d_M_findsThief_90 rfl)) (rIn 2 d_M_findsThief_91 rfl)) (by decide) d_M_findsThief_92)) d_M_findsThief_95 (by decide)) (sS (p1 := 102) (sP 39 fl_M_430 fp_12_39 nk_12_39 (rAn 0 d_M_findsThief_97 rfl) (xE (rI d_M_findsThief_98 rfl)) d_M_findsThief_99 rfl) (sS (p1 := 294) (sS (p1 := 105) (sI (xE (rI d_M_findsThief_102 rfl)) d_M_findsThief_103 (by decide)) (sLp (ps := 288) (tt := 116) (pn := 294) (p1 := 0) (p2 := 0) (xC (rNot (rJ2 (tgt := 294) j_ge (rIl d_M_findsThief_105) (r2 o_shl (rI d_M_findsThief_107 rfl) (rV p_M_debts (Nat.le_trans (Nat.le_of_ble_eq_true rfl) hd) lv_M_137 (rAr rA0 (rAn 0 d_M_findsThief_108 rfl)) (by decide) d_M_findsThief_109) d_M_findsThief_112) d_M_findsThief_113 (by decide)))) (sS (p1 := 129) (sIf (pn := 129) (tt := 288) (xC (rGt (p2 := 288) (rNot (rJ1 (tgt := 129) k_eq (r2 o_and (rIl d_M_findsThief_116) (r2 o_xor (rIl d_M_findsThief_118) (rI d_M_findsThief_120 rfl) d_M_findsThief_121) d_M_findsThief_122) d_M_findsThief_123 (by decide))) d_M_findsThief_126 (by decide))) sCo0) (sS (p1 := 132) (sI (xE (rI d_M_findsThief_129 rfl)) d_M_findsThief_130 (by decide)) (sS (p1 := 135) (sI (xE (rI d_M_findsThief_132 rfl)) d_M_findsThief_133 (by decide)) (sS (p1 := 212) (sS (p1 := 138) (sI (xE (rI d_M_findsThief_135 rfl)) d_M_findsThief_136 (by decide)) (sLp (ps := 206) (tt := 147) (pn := 212) (p1 := 0) (p2 := 0) (xC (rNot (rJ2 (tgt := 212) j_ge (rIl d_M_findsThief_138) (rV p_M_debts (Nat.le_trans (Nat.le_of_ble_eq_true rfl) hd) lv_M_137 (rAr rA0 (rAn 0 d_M_findsThief_140 rfl)) (by decide) d_M_findsThief_141) d_M_findsThief_144 (by decide)))) (sS (p1 := 180) (sI (xE (r2 o_add (rIl d_M_findsThief_147) (rT2 (rNot (rJ1 (tgt := 176) k_eq (rS p_M_isIn (Nat.le_trans (Nat.le_of_ble_eq_true rfl) hd) ls_M_406 (rAi (rAi rA0 (rIl d_M_findsThief_149)) (rIl d_M_findsThief_151)) (by decide) d_M_findsThief_153) d_M_findsThief_156 (by decide))) (rGoE (p2 := 177) (rIa (rFr fl_M_24 nk_12_2 (rAn 0 d_M_findsThief_159 rfl) d_M_findsThief_160) (r2 o_add (r2 o_add (rB d_M_findsThief_163 rfl) (r2 o_mul (rI d_M_findsThief_165 rfl) (rIl d_M_findsThief_166) d_M_findsThief_168) d_M_findsThief_169) (rI d_M_findsThief_170 rfl) d_M_findsThief_171) d_M_findsThief_172) d_M_findsThief_173 (by decide)) (rI d_M_findsThief_176 rfl)) d_M_findsThief_177)) d_M_findsThief_178 (by decide)) (sI (xE (r2 o_add (rIl d_M_findsThief_180) (rT2 (rNot (rJ1 (tgt := 202) k_eq (rS p_M_isIn (Nat.le_trans (Nat.le_of_ble_eq_true rfl) hd) ls_M_406 (rAi (rAi rA0 (rIl d_M_findsThief_182)) (rIl d_M_findsThief_184)) (by decide) d_M_findsThief_186) d_M_findsThief_189 (by decide))) (rGoE (p2 := 203) (rIa (rFr fl_M_92 nk_12_40 (rAn 0 d_M_findsThief_192 rfl) d_M_findsThief_193) (rIl d_M_findsThief_196) d_M_findsThief_198) d_M_findsThief_199 (by decide)) (rI d_M_findsThief_202 rfl)) d_M_findsThief_203)) d_M_findsThief_204 (by decide))) (sGo (pn := 138) (sInc d_M_findsThief_206 (by decide)) d_M_findsThief_209 (by decide)))) (sS (p1 := 256) (sIf (pn := 256) (tt := 288) (xC (rAnd (mm := 220) (rNot (rJ2 (tgt := 256) j_eq (rF 39 fl_M_430 nk_12_39 (rAn 0 d_M_findsThief_212 rfl) d_M_findsThief_213 rfl) (rI d_M_findsThief_216 rfl) d_M_findsThief_217 (by decide))) (rOr (mm := 229) (rJ2 (tgt := 288) j_gt (rIl d_M_findsThief_220) (rF 38 fl_M_433 nk_12_38 (rAn 0 d_M_findsThief_222 rfl) d_M_findsThief_223 rfl) d_M_findsThief_226 (by decide)) (rAnd (mm := 238) (rNot (rJ2 (tgt := 256) j_ne (rIl d_M_findsThief_229) (rF 38 fl_M_433 nk_12_38 (rAn 0 d_M_findsThief_231 rfl) d_M_findsThief_232 rfl) d_M_findsThief_235 (by decide))) (rGt (p2 := 288) (rNot (rJ2 (tgt := 256) j_lt (rS p_M_ones (Nat.le_trans (Nat.le_of_ble_eq_true rfl) hd) ls_M_436 (rAi rA0 (rIl d_M_findsThief_238)) (by decide) d_M_findsThief_240) (rS p_M_ones (Nat.le_trans (Nat.le_of_ble_eq_true rfl) hd) ls_M_436 (rAi rA0 (rF 39 fl_M_430 nk_12_39 (rAn 0 d_M_findsThief_243 rfl) d_M_findsThief_244 rfl)) (by decide) d_M_findsThief_247) d_M_findsThief_250 (by decide))) d_M_findsThief_253 (by decide)))))) sCo0) (sS (p1 := 276) (sIf (pn := 276) (tt := 288) (xGt (p2 := 288) (xNot (xJ2 (tgt := 276) j_ge (xV lv_M_338 (xA (rAi (rAi (rAi (rAi (rAr rA0 (rAn 0 d_M_findsThief_256 rfl)) (rIn 2 d_M_findsThief_257 rfl)) (rIn 1 d_M_findsThief_258 rfl)) (r2 o_add (rIl d_M_findsThief_259) (rIl d_M_findsThief_261) d_M_findsThief_263)) (rIl d_M_findsThief_264))) (by decide) d_M_findsThief_266) (xE (rIn 3 d_M_findsThief_269 rfl)) d_M_findsThief_270 (by decide))) d_M_findsThief_273 (by decide)) sCo0) (sS (p1 := 282) (sP 39 fl_M_430 fp_12_39 nk_12_39 (rAn 0 d_M_findsThief_276 rfl) (xE (rIl d_M_findsThief_277)) d_M_findsThief_279 rfl) (sP 38 fl_M_433 fp_12_38 nk_12_38 (rAn 0 d_M_findsThief_282 rfl) (xE (rIl d_M_findsThief_283)) d_M_findsThief_285 rfl)))))))) (sGo (pn := 105) (sInc d_M_findsThief_288 (by decide)) d_M_findsThief_291 (by decide)))) (sRv d_M_findsThief_294 rfl))))))))
theorem m_M_findsThief : Cond.instanceMethod y_M_findsThief.1 ∈ zTb ∧ Cond.selects y_M_findsThief.1.cls y_M_findsThief.1 y_M_findsThief.1 ∈ zTb ∧ Cond.initialized y_M_findsThief.1.cls ∈ zTb ∧ Cond.code y_M_findsThief.1 y_M_findsThief.2.1 y_M_findsThief.2.2.1 y_M_findsThief.2.2.2 ∈ zTb ∧ (y_M_findsThief.1.cls ≠ "java/lang/invoke/MethodHandle" ∧ y_M_findsThief.1.cls ≠ "java/lang/invoke/VarHandle" ∧ (parseMethodDescriptor y_M_findsThief.1.desc).map (fun d => d.parameters.length) = some 3) ∧ y_M_findsThief.2.2.1 ≤ 20 :=
  ⟨(zTb_in 1955 (by decide +kernel) (by decide +kernel)), (List.mem_filter.mpr ⟨List.mem_append_left _ (by decide +kernel), by decide +kernel⟩), (zTb_in 151 (by decide +kernel) (by decide +kernel)), (zTb_in 1956 (by decide +kernel) (by decide +kernel)), by decide +kernel, by decide +kernel⟩
theorem lv_M_439 : zLv "DebtDoorsModel" 439 y_M_findsThief 3 12 := ⟨⟨(zTb_in 1953 (by decide +kernel) (by decide +kernel)), m_M_findsThief.1, m_M_findsThief.2.1, m_M_findsThief.2.2⟩, _, rfl, rfl⟩
def y_M_thief : zMt := (⟨"DebtDoorsModel", "thief", "(IIII)I"⟩, prog_14_method_115_code, 5, some .int)
theorem d_M_thief_0 : decode prog_14_method_115_code 0 = .ok (.aload_n 0, 1) := by decide +kernel
theorem d_M_thief_1 : decode prog_14_method_115_code 1 = .ok (.iload_n 1, 1) := by decide +kernel
theorem d_M_thief_2 : decode prog_14_method_115_code 2 = .ok (.iload_n 2, 1) := by decide +kernel
theorem d_M_thief_3 : decode prog_14_method_115_code 3 = .ok (.invokevirtual 345, 3) := by decide +kernel
theorem d_M_thief_6 : decode prog_14_method_115_code 6 = .ok (.ifCond .eq 20, 3) := by decide +kernel
theorem d_M_thief_9 : decode prog_14_method_115_code 9 = .ok (.iload_n 3, 1) := by decide +kernel
theorem d_M_thief_10 : decode prog_14_method_115_code 10 = .ok (.invokestatic 140, 3) := by decide +kernel
theorem d_M_thief_13 : decode prog_14_method_115_code 13 = .ok (.ifCond .eq 13, 3) := by decide +kernel
theorem d_M_thief_16 : decode prog_14_method_115_code 16 = .ok (.iload 4, 2) := by decide +kernel
theorem d_M_thief_18 : decode prog_14_method_115_code 18 = .ok (.iconst 0, 1) := by decide +kernel
theorem d_M_thief_19 : decode prog_14_method_115_code 19 = .ok (.iconst 1, 1) := by decide +kernel
theorem d_M_thief_20 : decode prog_14_method_115_code 20 = .ok (.invokestatic 123, 3) := by decide +kernel
theorem d_M_thief_23 : decode prog_14_method_115_code 23 = .ok (.ifCond .ne 5, 3) := by decide +kernel
theorem d_M_thief_26 : decode prog_14_method_115_code 26 = .ok (.iconst (-1), 1) := by decide +kernel
theorem d_M_thief_27 : decode prog_14_method_115_code 27 = .ok (.ireturn, 1) := by decide +kernel
theorem d_M_thief_28 : decode prog_14_method_115_code 28 = .ok (.aload_n 0, 1) := by decide +kernel
theorem d_M_thief_29 : decode prog_14_method_115_code 29 = .ok (.iload_n 1, 1) := by decide +kernel
theorem d_M_thief_30 : decode prog_14_method_115_code 30 = .ok (.iload_n 2, 1) := by decide +kernel
theorem d_M_thief_31 : decode prog_14_method_115_code 31 = .ok (.iload_n 3, 1) := by decide +kernel
theorem d_M_thief_32 : decode prog_14_method_115_code 32 = .ok (.invokevirtual 439, 3) := by decide +kernel
theorem d_M_thief_35 : decode prog_14_method_115_code 35 = .ok (.aload_n 0, 1) := by decide +kernel
theorem d_M_thief_36 : decode prog_14_method_115_code 36 = .ok (.getfield 430, 3) := by decide +kernel
theorem d_M_thief_39 : decode prog_14_method_115_code 39 = .ok (.iconst (-1), 1) := by decide +kernel
theorem d_M_thief_40 : decode prog_14_method_115_code 40 = .ok (.if_icmp .ne 7, 3) := by decide +kernel
theorem d_M_thief_43 : decode prog_14_method_115_code 43 = .ok (.iconst (-1), 1) := by decide +kernel
theorem d_M_thief_44 : decode prog_14_method_115_code 44 = .ok (.goto 19, 3) := by decide +kernel
theorem d_M_thief_47 : decode prog_14_method_115_code 47 = .ok (.iload 4, 2) := by decide +kernel
theorem d_M_thief_49 : decode prog_14_method_115_code 49 = .ok (.ifCond .ne 10, 3) := by decide +kernel
theorem d_M_thief_52 : decode prog_14_method_115_code 52 = .ok (.aload_n 0, 1) := by decide +kernel
theorem d_M_thief_53 : decode prog_14_method_115_code 53 = .ok (.getfield 433, 3) := by decide +kernel
theorem d_M_thief_56 : decode prog_14_method_115_code 56 = .ok (.goto 7, 3) := by decide +kernel
theorem d_M_thief_59 : decode prog_14_method_115_code 59 = .ok (.aload_n 0, 1) := by decide +kernel
theorem d_M_thief_60 : decode prog_14_method_115_code 60 = .ok (.getfield 430, 3) := by decide +kernel
theorem d_M_thief_63 : decode prog_14_method_115_code 63 = .ok (.ireturn, 1) := by decide +kernel
def w_M_thief {d : Nat} (hd : 4 ≤ d) := (show SS ("DebtDoorsModel", prog_14_method_115_code, 5) (some .int) d 0 0 0 0 _ from (sS (p1 := 28) (sIf (pn := 28) (tt := 26) (xC (rOr (mm := 16) (rOr (mm := 9) (rNot (rNot (rJ1 (tgt := 26) k_eq (rV p_M_areTwo (Nat.le_trans (Nat.le_of_ble_eq_true rfl) hd) lv_M_345 (rAi (rAi (rAr rA0 (rAn 0 d_M_thief_0 rfl)) (rIn 1 d_M_thief_1 rfl)) (rIn 2 d_M_thief_2 rfl)) (by decide) d_M_thief_3) d_M_thief_6 (by decide)))) (rNot (rNot (rJ1 (tgt := 26) k_eq (rS p_M_isRoom (Nat.le_trans (Nat.le_of_ble_eq_true rfl) hd) ls_M_140 (rAi rA0 (rIn 3 d_M_thief_9 rfl)) (by decide) d_M_thief_10) d_M_thief_13 (by decide))))) (rNot (rJ1 (tgt := 28) k_ne (rS p_M_lies (Nat.le_trans (Nat.le_of_ble_eq_true rfl) hd) ls_M_123 (rAi (rAi (rAi rA0 (rIl d_M_thief_16)) (rI d_M_thief_18 rfl)) (rI d_M_thief_19 rfl)) (by decide) d_M_thief_20) d_M_thief_23 (by decide))))) (sRi (xE (rI d_M_thief_26 rfl)) d_M_thief_27 rfl)) (sS (p1 := 35) (sV (xVv lv_M_439 (xA (rAi (rAi (rAi (rAr rA0 (rAn 0 d_M_thief_28 rfl)) (rIn 1 d_M_thief_29 rfl)) (rIn 2 d_M_thief_30 rfl)) (rIn 3 d_M_thief_31 rfl))) (by decide) d_M_thief_32)) (sRi (xE (rT2 (rNot (rJ2 (tgt := 47) j_ne (rF 39 fl_M_430 nk_12_39 (rAn 0 d_M_thief_35 rfl) d_M_thief_36 rfl) (rI d_M_thief_39 rfl) d_M_thief_40 (by decide))) (rGoE (p2 := 63) (rI d_M_thief_43 rfl) d_M_thief_44 (by decide)) (rT2 (rNot (rJ1 (tgt := 59) k_ne (rIl d_M_thief_47) d_M_thief_49 (by decide))) (rGoE (p2 := 63) (rF 38 fl_M_433 nk_12_38 (rAn 0 d_M_thief_52 rfl) d_M_thief_53 rfl) d_M_thief_56 (by decide)) (rF 39 fl_M_430 nk_12_39 (rAn 0 d_M_thief_59 rfl) d_M_thief_60 rfl)))) d_M_thief_63 rfl))))
set_option maxRecDepth 20000 in
theorem q_M_findsThief {d : Nat} (hd : 49 ≤ d) {μ : zMem} {Z : Zt} {F : Option (List Cls)} {A : Lg} {w : Int → Int} {t h r : Int} (hC : MTx μ Z F A w) (ht : 0 ≤ t ∧ t ≤ 6) (hh : 0 ≤ h ∧ h ≤ 6) : zSp d 0 0 y_M_findsThief zT0 [vr 355, vi t, vi h, vi r] μ zT0 (fun q μ' => q = none ∧ BtM (thS Z F A w t h r) μ' ∧ zfc [355, 367, 378] μ μ' ∧ ∀ j : Int, kfM j → μ' 355 j = μ 355 j) := by
  have h16 := hC.2.1.2.1.1
  refine zSp.ss [vr 355, vi t, vi h, vi r, vx 0, vx 0, vx 0, vx 0, vx 0, vx 0, vx 0] rfl (w_M_findsThief (Nat.le_trans (by decide) hd)) rfl rfl ?_
  (try simp only [zit_e, Bool.and_eq_true, Bool.or_eq_true, Bool.not_eq_true', Bool.and_eq_false_iff, Bool.or_eq_false_iff, Bool.not_eq_false', zbe, zdt, zdf, zb2_p, zbp_0, zbp_1, zbp_inj, zbp_01, Bool.true_eq_false, Bool.false_eq_true, true_and, and_true, Decidable.not_not, Classical.not_not, implies_true, List.nil_append, List.cons_append, List.append_assoc, Option.some.injEq, Sum.inl.injEq, zSw_c, zSw_n]); (try simp only [zit_e, Bool.and_eq_true, Bool.or_eq_true, Bool.not_eq_true', Bool.and_eq_false_iff, Bool.or_eq_false_iff, Bool.not_eq_false', zbe, zdt, zdf, zb2_p, zbp_0, zbp_1, zbp_inj, zbp_01, Bool.true_eq_false, Bool.false_eq_true, true_and, and_true, Decidable.not_not, Classical.not_not, implies_true, List.nil_append, List.cons_append, List.append_assoc, Option.some.injEq, Sum.inl.injEq, zSw_c, zSw_n, zc_355]); (try simp only [zi_cs, zi_c0, zii_cs, zii_c0, zl_cs, zl_c0, zll_cs, zll_c0, zr_cs, zr_c0, zrr_cs, zrr_c0, zxs_cs, zxs_c0, zxx_cs, zxx_c0, zfree_c0, zfree_c1, zfree_cs, zfree_cz, zlong_i, zlong_r, zlong_x, zset_0, zset_s, true_and, and_true, Option.some.injEq, Sum.inl.injEq, Sum.inr.injEq, zb2_p, zbp_0, zbp_1, zbp_inj, zbp_01, Nat.zero_add, Nat.reduceAdd, implies_true, List.nil_append, List.cons_append, List.append_assoc, Int.not_lt, Int.not_le, Decidable.not_not, Int.zero_add, Int.reduceLE, Int.reduceLT, Int.reduceEq, Int.reduceNe, Int.reduceAdd, Int.reduceSub, Int.reduceMul, Int.reduceNeg, Int.reduceToNat, Nat.reduceMul, Nat.reduceLT, Nat.reduceEqDiff, and_self, ite_true, ite_false, zx1, zx2, zRecv, List.length_cons, List.length_nil, ne_eq, not_true_eq_false, not_false_eq_true, true_or, or_true, or_false, false_or, and_false, false_and, zf01, zf10, reduceCtorEq, zSw_c, zSw_n, zm_r, zit_T, zit_F, false_implies, true_implies, zc_355])
  refine zLoop.up A.2.1.length (fun j ρ μ1 => ∃ x6 x7 x8 x9 x10 : zV, ρ = [vr 355, vi t, vi h, vi r, vi (bsN (thM A t h) j : Int), vi j, x6, x7, x8, x9, x10] ∧ (∀ i : Int, 0 ≤ i → i < j → μ1 378 i = thP Z F A w i) ∧ zfc [355, 367, 378] μ μ1 ∧ ∀ j : Int, kfM j → μ1 355 j = μ 355 j) ⟨_, _, _, _, _, rfl, fun i x y => by omega, zfc.rf, fun _ _ => rfl⟩ ?_
  rintro j ρ μ1 hj ⟨x6, x7, x8, x9, x10, rfl, hA, hF, hk⟩
  have hC1 : MTx μ1 Z F A w := hC.k (hF 357 (by decide))
  have hd1 := hC1.d
  (try simp only [zit_e, Bool.and_eq_true, Bool.or_eq_true, Bool.not_eq_true', Bool.and_eq_false_iff, Bool.or_eq_false_iff, Bool.not_eq_false', zbe, zdt, zdf, zb2_p, zbp_0, zbp_1, zbp_inj, zbp_01, Bool.true_eq_false, Bool.false_eq_true, true_and, and_true, Decidable.not_not, Classical.not_not, implies_true, List.nil_append, List.cons_append, List.append_assoc, Option.some.injEq, Sum.inl.injEq, zSw_c, zSw_n]); (try simp only [zit_e, Bool.and_eq_true, Bool.or_eq_true, Bool.not_eq_true', Bool.and_eq_false_iff, Bool.or_eq_false_iff, Bool.not_eq_false', zbe, zdt, zdf, zb2_p, zbp_0, zbp_1, zbp_inj, zbp_01, Bool.true_eq_false, Bool.false_eq_true, true_and, and_true, Decidable.not_not, Classical.not_not, implies_true, List.nil_append, List.cons_append, List.append_assoc, Option.some.injEq, Sum.inl.injEq, zSw_c, zSw_n, zc_355, f_M_debts, g_M_debts, f_M_owed, g_M_owed]); (try simp only [zi_cs, zi_c0, zii_cs, zii_c0, zl_cs, zl_c0, zll_cs, zll_c0, zr_cs, zr_c0, zrr_cs, zrr_c0, zxs_cs, zxs_c0, zxx_cs, zxx_c0, zfree_c0, zfree_c1, zfree_cs, zfree_cz, zlong_i, zlong_r, zlong_x, zset_0, zset_s, true_and, and_true, Option.some.injEq, Sum.inl.injEq, Sum.inr.injEq, zb2_p, zbp_0, zbp_1, zbp_inj, zbp_01, Nat.zero_add, Nat.reduceAdd, implies_true, List.nil_append, List.cons_append, List.append_assoc, Int.not_lt, Int.not_le, Decidable.not_not, Int.zero_add, Int.reduceLE, Int.reduceLT, Int.reduceEq, Int.reduceNe, Int.reduceAdd, Int.reduceSub, Int.reduceMul, Int.reduceNeg, Int.reduceToNat, Nat.reduceMul, Nat.reduceLT, Nat.reduceEqDiff, and_self, ite_true, ite_false, zx1, zx2, zRecv, List.length_cons, List.length_nil, ne_eq, not_true_eq_false, not_false_eq_true, true_or, or_true, or_false, false_or, and_false, false_and, zf01, zf10, reduceCtorEq, zSw_c, zSw_n, zm_r, zit_T, zit_F, false_implies, true_implies, zc_355, f_M_debts, g_M_debts, f_M_owed, g_M_owed])
  rw [hd1.2.2.2.2]
  have hlt := bsN_lt (p := thM A t h) j
  have hlt1 := bsN_lt (p := thM A t h) (j + 1)
  have hpj : 2 ^ (j + 1) ≤ 2 ^ 17 := Nat.pow_le_pow_right (by decide) (by omega)
  have hpj0 : 2 ^ j ≤ 2 ^ 16 := Nat.pow_le_pow_right (by decide) (by omega)
  have h17 : (2 : Nat) ^ 17 = 131072 := by decide
  have h2_16 : (2 : Nat) ^ 16 = 65536 := by decide
  refine zif (fun c0 => ?_) (fun c0 => ?_)
  · obtain ⟨e1, e2⟩ := hC1.e (k := j) (by omega) c0
    have e4 : μ1 357 (7 + 4 * (j : Int)) = (dbt A j).1 ∧ μ1 357 (7 + 4 * (j : Int) + 1) = (dbt A j).2.1 := ⟨congrArg (fun x => x.1) e1, congrArg (fun x => x.2.1) e1⟩
    refine ⟨by omega, by omega, zCw.use (q_R_soldFor (d := 48) (by decide) hC1 (by omega) c0) (by omega) (fun q μ2 e => ?_)⟩
    obtain ⟨rfl, hF2⟩ := e
    rw [hF2.2 357 (by decide), e4.1, e4.2]
    have ez : zor (bsN (thM A t h) j : Int) (zit ((dbt A j).1 = h ∧ ¬ (dbt A j).2.1 = t) (zshl 1 (j : Int)) 0) = (bsN (thM A t h) (j + 1) : Int) := by
      by_cases hm : thM A t h j
      · rw [show zit ((dbt A j).1 = h ∧ ¬ (dbt A j).2.1 = t) (zshl 1 (j : Int)) 0 = zshl 1 (j : Int) from zit_t hm, bsN_y (by omega) hm]
      · rw [show zit ((dbt A j).1 = h ∧ ¬ (dbt A j).2.1 = t) (zshl 1 (j : Int)) 0 = 0 from zit_f hm, zor_0 (by omega), bsN_n hm]
    rw [ez]
    refine ⟨_, rfl, by ((repeat' apply And.intro) <;> (first | omega | (simp only [zI_e]; omega) | exact True.intro)), zI_s (by omega) (by omega), A.2.1.length - (j + 1), by omega, j + 1, rfl, by omega, _, _, _, _, _, rfl, fun i x y => ?_, ((hF.tr hF2.2).mo (b := [355, 367, 378]) (by simp)).zm (by decide), fun i hi => ?_⟩
    · by_cases ei : i = j
      · rw [zit_t ei, ei]
        rfl
      · rw [zit_f ei, hF2.2 378 (by decide)]
        exact hA i x (by omega)
    · rw [← hk i hi]
      unfold kfM at hi
      exact hF2.1 i (by omega) (by omega) (by omega) (by omega)
  · have ej : j = A.2.1.length := by omega
    subst ej
    rw [hd1.1]
    have b1 := owA (a := h) (b := t) hC.2.1
    have b2 := owA (a := t) (b := h) hC.2.1
    rw [← hd1.2.2.2.2]
    refine ⟨hd1.2.2.2.1, hd1.2.2.2.1, ?_⟩
    have hmay : ∀ s : Nat, s < 2 ^ A.2.1.length → ((zand (s : Int) (zxor (bsN (thM A t h) A.2.1.length : Int) (-1)) = 0) ↔ ∀ i : Nat, s.testBit i = true → thM A t h i) := by
      intro s hs
      rw [zsub_n (by omega) (by omega)]
      constructor
      · intro q i hi
        exact ((bsN_tb _ _).mp (q i hi)).2
      · intro q i hi
        refine (bsN_tb _ _).mpr ⟨?_, q i hi⟩
        rcases Nat.lt_or_ge i A.2.1.length with c | c
        · exact c
        · rw [Nat.testBit_lt_two_pow (Nat.lt_of_lt_of_le hs (Nat.pow_le_pow_right (by decide) c))] at hi
          cases hi
    refine zLoop.up (2 ^ A.2.1.length) (fun s ρ μ2 => ∃ x8 x9 x10 : zV, ρ = [vr 355, vi t, vi h, vi r, vi (bsN (thM A t h) A.2.1.length : Int), vi (owL h t A.2.1), vi (owL t h A.2.1), vi s, x8, x9, x10] ∧ BtM (frS (thO Z F A w t h r) (thM A t h) (thA A) (thP Z F A w) A.2.1.length (owL h t A.2.1) none 0 s) μ2 ∧ (∀ i : Int, 0 ≤ i → i < A.2.1.length → μ2 378 i = thP Z F A w i) ∧ zfc [355, 367, 378] μ μ2 ∧ ∀ j : Int, kfM j → μ2 355 j = μ 355 j) ⟨_, _, _, rfl, zm_s, fun i x y => by rw [zm_off _ (by decide)]; exact hA i x y, hF.zm (by decide), fun i hi => by rw [zm_o (Or.inr (by unfold kfM at hi; omega))]; exact hk i hi⟩ ?_
    clear hA hF hk hC1 hd1
    rintro s ρ μ2 hs ⟨x8, x9, x10, rfl, hB, hA, hF, hk⟩
    have hC2 : MTx μ2 Z F A w := hC.k (hF 357 (by decide))
    have hd2 := hC2.d
    (try simp only [zit_e, Bool.and_eq_true, Bool.or_eq_true, Bool.not_eq_true', Bool.and_eq_false_iff, Bool.or_eq_false_iff, Bool.not_eq_false', zbe, zdt, zdf, zb2_p, zbp_0, zbp_1, zbp_inj, zbp_01, Bool.true_eq_false, Bool.false_eq_true, true_and, and_true, Decidable.not_not, Classical.not_not, implies_true, List.nil_append, List.cons_append, List.append_assoc, Option.some.injEq, Sum.inl.injEq, zSw_c, zSw_n]); (try simp only [zit_e, Bool.and_eq_true, Bool.or_eq_true, Bool.not_eq_true', Bool.and_eq_false_iff, Bool.or_eq_false_iff, Bool.not_eq_false', zbe, zdt, zdf, zb2_p, zbp_0, zbp_1, zbp_inj, zbp_01, Bool.true_eq_false, Bool.false_eq_true, true_and, and_true, Decidable.not_not, Classical.not_not, implies_true, List.nil_append, List.cons_append, List.append_assoc, Option.some.injEq, Sum.inl.injEq, zSw_c, zSw_n, zc_355, f_M_debts, g_M_debts, f_M_isIn, g_M_isIn, f_M_ones, g_M_ones]); (try simp only [zi_cs, zi_c0, zii_cs, zii_c0, zl_cs, zl_c0, zll_cs, zll_c0, zr_cs, zr_c0, zrr_cs, zrr_c0, zxs_cs, zxs_c0, zxx_cs, zxx_c0, zfree_c0, zfree_c1, zfree_cs, zfree_cz, zlong_i, zlong_r, zlong_x, zset_0, zset_s, true_and, and_true, Option.some.injEq, Sum.inl.injEq, Sum.inr.injEq, zb2_p, zbp_0, zbp_1, zbp_inj, zbp_01, Nat.zero_add, Nat.reduceAdd, implies_true, List.nil_append, List.cons_append, List.append_assoc, Int.not_lt, Int.not_le, Decidable.not_not, Int.zero_add, Int.reduceLE, Int.reduceLT, Int.reduceEq, Int.reduceNe, Int.reduceAdd, Int.reduceSub, Int.reduceMul, Int.reduceNeg, Int.reduceToNat, Nat.reduceMul, Nat.reduceLT, Nat.reduceEqDiff, and_self, ite_true, ite_false, zx1, zx2, zRecv, List.length_cons, List.length_nil, ne_eq, not_true_eq_false, not_false_eq_true, true_or, or_true, or_false, false_or, and_false, false_and, zf01, zf10, reduceCtorEq, zSw_c, zSw_n, zm_r, zit_T, zit_F, false_implies, true_implies, zc_355, f_M_debts, g_M_debts, f_M_isIn, g_M_isIn, f_M_ones, g_M_ones])
    have hsh : zshl 1 (A.2.1.length : Int) = ((2 ^ A.2.1.length : Nat) : Int) := zshl_n (by omega)
    generalize hok : thO Z F A w t h r = ok at *
    generalize hmm : thM A t h = may at *
    have hpr : ∀ i : Int, 0 ≤ i → i < (A.2.1.length : Int) → (0 ≤ thP Z F A w i ∧ thP Z F A w i ≤ 9999) ∧ 1 ≤ thA A i ∧ thA A i ≤ 9999 := fun i x y => by
      have o := dbt_o hC.2.1 x y
      have := odS_in (W := wdD Z A w (dbt A i)) (F := F) (kind := 2) (m := (dbt A i).2.2.1) (by have := o.2.2.2.1; omega)
      exact ⟨this, o.2.2.2.1⟩
    refine zif (fun c0 => ?_) (fun c0 => ?_)
    · have c0 := of_decide_eq_false c0
      rw [hd2.2.2.2.2, hsh] at c0
      have hs2 : s < 2 ^ A.2.1.length := by omega
      have nx : ∀ {y8 y9 y10 : zV} {μ3 : zMem}, BtM (frS ok may (thA A) (thP Z F A w) A.2.1.length (owL h t A.2.1) none 0 (s + 1)) μ3 → (∀ i : Int, 0 ≤ i → i < A.2.1.length → μ3 378 i = thP Z F A w i) → zfc [355, 367, 378] μ μ3 → (∀ j : Int, kfM j → μ3 355 j = μ 355 j) → zI ((s : Int) + 1) ∧ ∃ m', m' < 2 ^ A.2.1.length - s ∧ ∃ j', m' = 2 ^ A.2.1.length - j' ∧ j' ≤ 2 ^ A.2.1.length ∧ ∃ x8 x9 x10 : zV, [vr 355, vi t, vi h, vi r, vi (bsN may A.2.1.length : Int), vi (owL h t A.2.1), vi (owL t h A.2.1), vi ((s : Int) + 1), y8, y9, y10] = [vr 355, vi t, vi h, vi r, vi (bsN may A.2.1.length : Int), vi (owL h t A.2.1), vi (owL t h A.2.1), vi j', x8, x9, x10] ∧ BtM (frS ok may (thA A) (thP Z F A w) A.2.1.length (owL h t A.2.1) none 0 j') μ3 ∧ (∀ i : Int, 0 ≤ i → i < A.2.1.length → μ3 378 i = thP Z F A w i) ∧ zfc [355, 367, 378] μ μ3 ∧ ∀ j : Int, kfM j → μ3 355 j = μ 355 j := by
        intro y8 y9 y10 μ3 q1 q2 q3 q4
        exact ⟨zI_s (by omega) (by omega), 2 ^ A.2.1.length - (s + 1), by omega, s + 1, rfl, by omega, y8, y9, y10, rfl, q1, q2, q3, q4⟩
      have es : frS ok may (thA A) (thP Z F A w) A.2.1.length (owL h t A.2.1) none 0 (s + 1) = stpS ok may (thA A) (thP Z F A w) A.2.1.length (owL h t A.2.1) (frS ok may (thA A) (thP Z F A w) A.2.1.length (owL h t A.2.1) none 0 s) s := by
        rw [frS, Nat.zero_add]
      rw [es] at nx
      generalize frS ok may (thA A) (thP Z F A w) A.2.1.length (owL h t A.2.1) none 0 s = B at *
      refine zif (fun c1 => ?_) (fun c1 => ?_)
      · have : stpS ok may (thA A) (thP Z F A w) A.2.1.length (owL h t A.2.1) B s = B := if_neg (fun q => c1 ((hmay s hs2).mpr q))
        rw [this] at nx
        exact nx hB hA hF hk
      have c1 := (hmay s hs2).mp (Classical.not_not.mp c1)
      have est : stpS ok may (thA A) (thP Z F A w) A.2.1.length (owL h t A.2.1) B s = lfS ok B (owL h t A.2.1 + smB (thA A) s A.2.1.length) (smB (thP Z F A w) s A.2.1.length) s := if_pos c1
      rw [est] at nx
      refine zLoop.up A.2.1.length (fun e ρ μ3 => ρ = [vr 355, vi t, vi h, vi r, vi (bsN may A.2.1.length : Int), vi (owL h t A.2.1), vi (owL t h A.2.1), vi s, vi (smB (thA A) s e), vi (smB (thP Z F A w) s e), vi e] ∧ (0 ≤ smB (thA A) s e ∧ smB (thA A) s e ≤ 9999 * e) ∧ (0 ≤ smB (thP Z F A w) s e ∧ smB (thP Z F A w) s e ≤ 9999 * e) ∧ μ2 = μ3) ⟨rfl, ⟨Int.le_refl _, Int.le_refl _⟩, ⟨Int.le_refl _, Int.le_refl _⟩, rfl⟩ ?_
      rintro e ρ μ3 he ⟨rfl, ha, hp, rfl⟩
      (try simp only [zit_e, Bool.and_eq_true, Bool.or_eq_true, Bool.not_eq_true', Bool.and_eq_false_iff, Bool.or_eq_false_iff, Bool.not_eq_false', zbe, zdt, zdf, zb2_p, zbp_0, zbp_1, zbp_inj, zbp_01, Bool.true_eq_false, Bool.false_eq_true, true_and, and_true, Decidable.not_not, Classical.not_not, implies_true, List.nil_append, List.cons_append, List.append_assoc, Option.some.injEq, Sum.inl.injEq, zSw_c, zSw_n]); (try simp only [zit_e, Bool.and_eq_true, Bool.or_eq_true, Bool.not_eq_true', Bool.and_eq_false_iff, Bool.or_eq_false_iff, Bool.not_eq_false', zbe, zdt, zdf, zb2_p, zbp_0, zbp_1, zbp_inj, zbp_01, Bool.true_eq_false, Bool.false_eq_true, true_and, and_true, Decidable.not_not, Classical.not_not, implies_true, List.nil_append, List.cons_append, List.append_assoc, Option.some.injEq, Sum.inl.injEq, zSw_c, zSw_n, zc_355, f_M_debts, g_M_debts, f_M_isIn, g_M_isIn, f_M_ones, g_M_ones]); (try simp only [zi_cs, zi_c0, zii_cs, zii_c0, zl_cs, zl_c0, zll_cs, zll_c0, zr_cs, zr_c0, zrr_cs, zrr_c0, zxs_cs, zxs_c0, zxx_cs, zxx_c0, zfree_c0, zfree_c1, zfree_cs, zfree_cz, zlong_i, zlong_r, zlong_x, zset_0, zset_s, true_and, and_true, Option.some.injEq, Sum.inl.injEq, Sum.inr.injEq, zb2_p, zbp_0, zbp_1, zbp_inj, zbp_01, Nat.zero_add, Nat.reduceAdd, implies_true, List.nil_append, List.cons_append, List.append_assoc, Int.not_lt, Int.not_le, Decidable.not_not, Int.zero_add, Int.reduceLE, Int.reduceLT, Int.reduceEq, Int.reduceNe, Int.reduceAdd, Int.reduceSub, Int.reduceMul, Int.reduceNeg, Int.reduceToNat, Nat.reduceMul, Nat.reduceLT, Nat.reduceEqDiff, and_self, ite_true, ite_false, zx1, zx2, zRecv, List.length_cons, List.length_nil, ne_eq, not_true_eq_false, not_false_eq_true, true_or, or_true, or_false, false_or, and_false, false_and, zf01, zf10, reduceCtorEq, zSw_c, zSw_n, zm_r, zit_T, zit_F, false_implies, true_implies, zc_355, f_M_debts, g_M_debts, f_M_isIn, g_M_isIn, f_M_ones, g_M_ones])
      refine zif (fun c2 => ?_) (fun c2 => ?_)
      · have c2 := of_decide_eq_false c2
        rw [hd2.2.2.2.2] at c2
        have c2 := Int.not_le.mp c2
        obtain ⟨e1, e2⟩ := hC2.e (k := e) (by omega) c2
        have e6 : μ2 357 (7 + 4 * (e : Int) + 2) = thA A e := congrArg (fun x => x.2.2.1) e1
        have ea : smB (thA A) s (e + 1) = smB (thA A) s e + zit (zbit s e) (thA A e) 0 := rfl
        have ep : smB (thP Z F A w) s (e + 1) = smB (thP Z F A w) s e + zit (zbit s e) (thP Z F A w e) 0 := rfl
        have hb := hpr e (by omega) c2
        have za : 0 ≤ zit (zbit s e) (thA A e) 0 ∧ zit (zbit s e) (thA A e) 0 ≤ 9999 := by
          unfold zit
          split <;> omega
        have zp : 0 ≤ zit (zbit s e) (thP Z F A w e) 0 ∧ zit (zbit s e) (thP Z F A w e) 0 ≤ 9999 := by
          unfold zit
          split <;> omega
        rw [e6, hA e (by omega) c2]
        refine ⟨⟨⟨by omega, fun _ => ⟨⟨⟨zI_s (by omega) (by omega), zI_s (by omega) (by omega)⟩, zI_s (by omega) (by omega)⟩, by omega, by omega⟩⟩, zI_s (by omega) (by omega)⟩, ⟨⟨by omega, fun _ => by omega⟩, zI_s (by omega) (by omega)⟩, zI_s (by omega) (by omega), A.2.1.length - (e + 1), by omega, e + 1, rfl, by omega, by rw [ea, ep]; rfl, ?_, ?_⟩
        · rw [ea]
          omega
        · rw [ep]
          omega
      · have ee : e = A.2.1.length := by
          have : ¬ ((e : Int) < (A.2.1.length : Int)) := fun q => c2 (decide_eq_false (by rw [hd2.2.2.2.2]; omega))
          omega
        subst ee
        have hi := hB.i (smB (thP Z F A w) s A.2.1.length) s
        refine ⟨fun q _ _ => ⟨by omega, hi.1 q⟩, ?_⟩
        refine zif (fun c3 => ?_) (fun c3 => ?_)
        · have : lfS ok B (owL h t A.2.1 + smB (thA A) s A.2.1.length) (smB (thP Z F A w) s A.2.1.length) s = B := if_neg (fun q => hi.2.mp c3 q.1)
          rw [this] at nx
          exact nx hB hA hF hk
        have hbt : btS B (smB (thP Z F A w) s A.2.1.length) s := Classical.byContradiction (fun q => c3 (hi.2.mpr q))
        refine ⟨zI_s (by omega) (by omega), ?_⟩
        refine zCw.use (q_R_deepBy (d := 48) (by decide) hC2 hh ht (by omega) (by omega)) (by omega) (fun q μ4 e => ?_)
        obtain ⟨rfl, hF4⟩ := e
        have hko : ok (owL h t A.2.1 + smB (thA A) s A.2.1.length) ↔ r ≤ dpA Z F A w h t (owL h t A.2.1 + smB (thA A) s A.2.1.length) (owL t h A.2.1) := by rw [← hok]; exact Iff.rfl
        have hF5 : zfc [355, 367, 378] μ μ4 := (hF.tr hF4.2).mo (by simp)
        have hk5 : ∀ j : Int, kfM j → μ4 355 j = μ 355 j := fun j hj => by
          rw [← hk j hj]
          unfold kfM at hj
          exact hF4.1 j (by omega) (by omega) (by omega) (by omega)
        have hA5 : ∀ i : Int, 0 ≤ i → i < A.2.1.length → μ4 378 i = thP Z F A w i := fun i x y => by
          rw [hF4.2 378 (by decide)]
          exact hA i x y
        refine ⟨_, rfl, ?_⟩
        refine zif (fun c4 => ?_) (fun c4 => ?_)
        · have : lfS ok B (owL h t A.2.1 + smB (thA A) s A.2.1.length) (smB (thP Z F A w) s A.2.1.length) s = B := if_neg (fun q => by have := hko.mp q.2; omega)
          rw [this] at nx
          exact nx (hB.k (hF4.1 38 (by decide) (by decide) (by decide) (by decide)) (hF4.1 39 (by decide) (by decide) (by decide) (by decide))) hA5 hF5 hk5
        · have : lfS ok B (owL h t A.2.1 + smB (thA A) s A.2.1.length) (smB (thP Z F A w) s A.2.1.length) s = some (smB (thP Z F A w) s A.2.1.length, (s : Int)) := if_pos ⟨hbt, hko.mpr (by omega)⟩
          refine ⟨zI_s (by omega) (by omega), 2 ^ A.2.1.length - (s + 1), by omega, s + 1, rfl, by omega, _, _, _, rfl, ?_, hA5, (hF5.zm (by decide)).zm (by decide), fun j hj => ?_⟩
          · rw [es, est, this]
            exact ⟨by rw [zm_s], by rw [zm_o (by omega), zm_s], by omega, by omega⟩
          · rw [zit_f (by unfold kfM at hj; omega), zit_f (by unfold kfM at hj; omega)]
            exact hk5 j hj
    · have es : s = 2 ^ A.2.1.length := by
        have : ¬ ((s : Int) < ((2 ^ A.2.1.length : Nat) : Int)) := fun q => c0 (decide_eq_false (by rw [hd2.2.2.2.2, hsh]; omega))
        omega
      subst es
      have hg := (gS_fr (ok := ok) (may := may) (amt := thA A) (pr := thP Z F A w) (len := A.2.1.length) (ow := owL h t A.2.1) A.2.1.length (Nat.le_refl _) 0 none (Nat.zero_mod _)).1 (fun i hi => by rw [Nat.zero_testBit] at hi; cases hi)
      have e0 : ((0 : Nat) : Int) = 0 := rfl
      rw [e0, smB_0, smB_0, Int.add_zero] at hg
      have hth : thS Z F A w t h r = gS ok may (thA A) (thP Z F A w) A.2.1.length none (owL h t A.2.1) 0 0 := by
        rw [← hok, ← hmm]
        rfl
      rw [hth, ← hg]
      exact ⟨hB, hF, hk⟩
theorem LC_thief {t h r x : Int} : LC y_D_thief y_M_thief [vi t, vi h, vi r, vi x] := LC.tl (f := fun Z F A w => zit ((h ≠ t ∧ (0 ≤ h ∧ h < Z.1) ∧ 0 ≤ t ∧ t < Z.1) ∧ (1 ≤ r ∧ r ≤ 3) ∧ 0 ≤ x ∧ x ≤ 1) (thV (thS Z F A w t h r) x) (-1)) (fun μ Z F A w hC => by
    exact zCw.use (q_D_thief (d := 100) (by decide) hC) (by decide) (fun q μ' e => e)) (fun μ Z F A w hC => by
    have hn := hC.1.1
    have e6 := hC.2.2.1.1
    refine zCw.use (zSp.ss [vr 355, vi t, vi h, vi r, vi x] rfl (w_M_thief (d := 100) (by decide)) rfl rfl ?_) (by decide) (fun q μ' e => e)
    (try simp only [zit_e, Bool.and_eq_true, Bool.or_eq_true, Bool.not_eq_true', Bool.and_eq_false_iff, Bool.or_eq_false_iff, Bool.not_eq_false', zbe, zdt, zdf, zb2_p, zbp_0, zbp_1, zbp_inj, zbp_01, Bool.true_eq_false, Bool.false_eq_true, true_and, and_true, Decidable.not_not, Classical.not_not, implies_true, List.nil_append, List.cons_append, List.append_assoc, Option.some.injEq, Sum.inl.injEq, zSw_c, zSw_n]); (try simp only [zit_e, Bool.and_eq_true, Bool.or_eq_true, Bool.not_eq_true', Bool.and_eq_false_iff, Bool.or_eq_false_iff, Bool.not_eq_false', zbe, zdt, zdf, zb2_p, zbp_0, zbp_1, zbp_inj, zbp_01, Bool.true_eq_false, Bool.false_eq_true, true_and, and_true, Decidable.not_not, Classical.not_not, implies_true, List.nil_append, List.cons_append, List.append_assoc, Option.some.injEq, Sum.inl.injEq, zSw_c, zSw_n, zc_355, f_M_areTwo, g_M_areTwo, f_M_isRoom, g_M_isRoom, f_M_lies, g_M_lies]); (try simp only [zi_cs, zi_c0, zii_cs, zii_c0, zl_cs, zl_c0, zll_cs, zll_c0, zr_cs, zr_c0, zrr_cs, zrr_c0, zxs_cs, zxs_c0, zxx_cs, zxx_c0, zfree_c0, zfree_c1, zfree_cs, zfree_cz, zlong_i, zlong_r, zlong_x, zset_0, zset_s, true_and, and_true, Option.some.injEq, Sum.inl.injEq, Sum.inr.injEq, zb2_p, zbp_0, zbp_1, zbp_inj, zbp_01, Nat.zero_add, Nat.reduceAdd, implies_true, List.nil_append, List.cons_append, List.append_assoc, Int.not_lt, Int.not_le, Decidable.not_not, Int.zero_add, Int.reduceLE, Int.reduceLT, Int.reduceEq, Int.reduceNe, Int.reduceAdd, Int.reduceSub, Int.reduceMul, Int.reduceNeg, Int.reduceToNat, Nat.reduceMul, Nat.reduceLT, Nat.reduceEqDiff, and_self, ite_true, ite_false, zx1, zx2, zRecv, List.length_cons, List.length_nil, ne_eq, not_true_eq_false, not_false_eq_true, true_or, or_true, or_false, false_or, and_false, false_and, zf01, zf10, reduceCtorEq, zSw_c, zSw_n, zm_r, zit_T, zit_F, false_implies, true_implies, zc_355, f_M_areTwo, g_M_areTwo, f_M_isRoom, g_M_isRoom, f_M_lies, g_M_lies])
    rw [e6]
    refine ⟨by omega, ?_⟩
    refine zif (fun c => ⟨(zit_f (by omega)).symm, HC.rf, KM.rf⟩) (fun c => ?_)
    refine zCw.use (q_M_findsThief (d := 49) (by decide) (r := r) hC (t := t) (h := h) (by omega) (by omega)) (by omega) (fun q μ2 e => ?_)
    obtain ⟨rfl, hB, hF, hk⟩ := e
    have hz : zit ((¬ h = t ∧ (0 ≤ h ∧ h < Z.1) ∧ 0 ≤ t ∧ t < Z.1) ∧ (1 ≤ r ∧ r ≤ 3) ∧ 0 ≤ x ∧ x ≤ 1) (thV (thS Z F A w t h r) x) (-1) = thV (thS Z F A w t h r) x := zit_t (by omega)
    rw [hz]
    have hc : HC μ μ2 := hF.hc (by simp)
    have hm : KM μ μ2 := hF.km (by simp [scM]) hk
    generalize thS Z F A w t h r = B at hB
    rcases B with _ | ⟨p, s⟩
    · have hB : μ2 355 39 = -1 := hB
      rw [zit_t hB]
      exact ⟨rfl, rfl, hc, hm⟩
    · obtain ⟨h2, h3, h4⟩ : μ2 355 38 = p ∧ μ2 355 39 = s ∧ 0 ≤ s ∧ s < 65536 := hB
      rw [zit_f (by omega), h2, h3]
      refine ⟨rfl, ?_, hc, hm⟩
      unfold thV
      simp only
      rw [zit_e])

