/-! the reader goes to the next token -/
def okB (B : Int → Int) (n : Nat) : Prop := n ≤ 400 ∧ ∀ i : Nat, i < n → 0 ≤ B i ∧ B i ≤ 255
/-- the reader stands at a token that begins at p -/
def NX (B : Int → Int) (n p : Nat) (μ : zMem) : Prop := (μ 322 = B ∧ μ 321 2 = (n : Int)) ∧ μ 321 8 = (p : Int) ∧ μ 321 9 = ((if p < n then tE B n p else p : Nat) : Int) ∧ μ 321 7 = (if p < n then (if isL (B p) = true then 1 else if isD (B p) = true then 2 else 3) else 0) ∧ (p < n → isD (B p) = true → μ 321 10 = min 1001 (tV B n p))
def RD (B : Int → Int) (n t : Nat) (μ : zMem) : Prop := NX B n (ps B n t) μ
theorem zm_zm {μ : zMem} {k : Nat} {j v w : Int} : zm (zm μ k j v) k j w = zm μ k j w := by
  funext a i
  rw [zm_r, zm_r, zm_r]
  by_cases h : a = k
  · rw [zit_t h, zit_t h, zit_t h]
    by_cases h2 : i = j
    · rw [zit_t h2, zit_t h2]
    · rw [zit_f h2, zit_f h2, zit_f h2]
  · rw [zit_f h, zit_f h, zit_f h]
theorem tE_L {B : Int → Int} {n p : Nat} (hp : p < n) (h : isL (B p) = true) : tE B n p = onE isL B n p := by
  rw [onE_t hp h]
  unfold tE
  rw [if_pos h]
theorem tE_D2 {B : Int → Int} {n p : Nat} (hp : p < n) (h : isD (B p) = true) : tE B n p = onE isD B n p := by
  rw [onE_t hp h, tE_D h]
theorem dV_min {B : Int → Int} {k j : Nat} (h : ∀ i : Nat, i < j + 1 → 48 ≤ B (k + i) ∧ B (k + i) ≤ 57) : min 1001 (min 1001 (dV B k j) * 10 + B (k + j) - 48) = min 1001 (dV B k (j + 1)) := by
  have h1 := dV_in (B := B) (k := k) j (fun i hi => h i (by omega))
  have h2 := h j (by omega)
  rw [dV]
  split <;> omega
theorem isL_e {b : Int} : (isL b = true) = (97 ≤ b ∧ b ≤ 122) := by unfold isL; rw [decide_eq_true_eq]
theorem isD_e {b : Int} : (isD b = true) = (48 ≤ b ∧ b ≤ 57) := by unfold isD; rw [decide_eq_true_eq]
theorem isB_e {b : Int} : (isB b = true) = (b = 32) := by unfold isB; rw [decide_eq_true_eq]
theorem fl_Re_22 : zFl "DebtDoors$Reader" 22 6 2 := ⟨_, rfl, by decide, (zTb_in 327 (by decide +kernel) (by decide +kernel)), rfl⟩
theorem fp_6_8 : zFp 6 8 0 := ⟨_, rfl, rfl, rfl, by decide⟩
theorem fp_6_7 : zFp 6 7 0 := ⟨_, rfl, rfl, rfl, by decide⟩
theorem fl_Re_61 : zFl "DebtDoors$Reader" 61 6 10 := ⟨_, rfl, by decide, (zTb_in 337 (by decide +kernel) (by decide +kernel)), rfl⟩
theorem fp_6_10 : zFp 6 10 0 := ⟨_, rfl, rfl, rfl, by decide⟩
theorem nk_6_10 : zNk 6 10 = some 0 := rfl
theorem km_Re_64 : Cond.methodLink "DebtDoors$Reader" 64 Lib.Math.min.name ∈ zTb := (zTb_in 750 (by decide +kernel) (by decide +kernel))
theorem fp_6_9 : zFp 6 9 0 := ⟨_, rfl, rfl, rfl, by decide⟩
def y_Re_next : zMt := (⟨"DebtDoors$Reader", "next", "()V"⟩, prog_8_method_5_code, 2, none)
theorem d_Re_next_0 : decode prog_8_method_5_code 0 = .ok (.aload_n 0, 1) := by decide +kernel
theorem d_Re_next_1 : decode prog_8_method_5_code 1 = .ok (.getfield 35, 3) := by decide +kernel
theorem d_Re_next_4 : decode prog_8_method_5_code 4 = .ok (.istore_n 1, 1) := by decide +kernel
theorem d_Re_next_5 : decode prog_8_method_5_code 5 = .ok (.iload_n 1, 1) := by decide +kernel
theorem d_Re_next_6 : decode prog_8_method_5_code 6 = .ok (.aload_n 0, 1) := by decide +kernel
theorem d_Re_next_7 : decode prog_8_method_5_code 7 = .ok (.getfield 22, 3) := by decide +kernel
theorem d_Re_next_10 : decode prog_8_method_5_code 10 = .ok (.if_icmp .ge 20, 3) := by decide +kernel
theorem d_Re_next_13 : decode prog_8_method_5_code 13 = .ok (.aload_n 0, 1) := by decide +kernel
theorem d_Re_next_14 : decode prog_8_method_5_code 14 = .ok (.getfield 9, 3) := by decide +kernel
theorem d_Re_next_17 : decode prog_8_method_5_code 17 = .ok (.iload_n 1, 1) := by decide +kernel
theorem d_Re_next_18 : decode prog_8_method_5_code 18 = .ok (.iaload, 1) := by decide +kernel
theorem d_Re_next_19 : decode prog_8_method_5_code 19 = .ok (.bipush 32, 2) := by decide +kernel
theorem d_Re_next_21 : decode prog_8_method_5_code 21 = .ok (.if_icmp .ne 9, 3) := by decide +kernel
theorem d_Re_next_24 : decode prog_8_method_5_code 24 = .ok (.iinc 1 1, 3) := by decide +kernel
theorem d_Re_next_27 : decode prog_8_method_5_code 27 = .ok (.goto (-22), 3) := by decide +kernel
theorem d_Re_next_30 : decode prog_8_method_5_code 30 = .ok (.aload_n 0, 1) := by decide +kernel
theorem d_Re_next_31 : decode prog_8_method_5_code 31 = .ok (.iload_n 1, 1) := by decide +kernel
theorem d_Re_next_32 : decode prog_8_method_5_code 32 = .ok (.putfield 58, 3) := by decide +kernel
theorem d_Re_next_35 : decode prog_8_method_5_code 35 = .ok (.iload_n 1, 1) := by decide +kernel
theorem d_Re_next_36 : decode prog_8_method_5_code 36 = .ok (.aload_n 0, 1) := by decide +kernel
theorem d_Re_next_37 : decode prog_8_method_5_code 37 = .ok (.getfield 22, 3) := by decide +kernel
theorem d_Re_next_40 : decode prog_8_method_5_code 40 = .ok (.if_icmp .lt 11, 3) := by decide +kernel
theorem d_Re_next_43 : decode prog_8_method_5_code 43 = .ok (.aload_n 0, 1) := by decide +kernel
theorem d_Re_next_44 : decode prog_8_method_5_code 44 = .ok (.iconst 0, 1) := by decide +kernel
theorem d_Re_next_45 : decode prog_8_method_5_code 45 = .ok (.putfield 51, 3) := by decide +kernel
theorem d_Re_next_48 : decode prog_8_method_5_code 48 = .ok (.goto 169, 3) := by decide +kernel
theorem d_Re_next_51 : decode prog_8_method_5_code 51 = .ok (.aload_n 0, 1) := by decide +kernel
theorem d_Re_next_52 : decode prog_8_method_5_code 52 = .ok (.getfield 9, 3) := by decide +kernel
theorem d_Re_next_55 : decode prog_8_method_5_code 55 = .ok (.iload_n 1, 1) := by decide +kernel
theorem d_Re_next_56 : decode prog_8_method_5_code 56 = .ok (.iaload, 1) := by decide +kernel
theorem d_Re_next_57 : decode prog_8_method_5_code 57 = .ok (.bipush 97, 2) := by decide +kernel
theorem d_Re_next_59 : decode prog_8_method_5_code 59 = .ok (.if_icmp .lt 55, 3) := by decide +kernel
theorem d_Re_next_62 : decode prog_8_method_5_code 62 = .ok (.aload_n 0, 1) := by decide +kernel
theorem d_Re_next_63 : decode prog_8_method_5_code 63 = .ok (.getfield 9, 3) := by decide +kernel
theorem d_Re_next_66 : decode prog_8_method_5_code 66 = .ok (.iload_n 1, 1) := by decide +kernel
theorem d_Re_next_67 : decode prog_8_method_5_code 67 = .ok (.iaload, 1) := by decide +kernel
theorem d_Re_next_68 : decode prog_8_method_5_code 68 = .ok (.bipush 122, 2) := by decide +kernel
theorem d_Re_next_70 : decode prog_8_method_5_code 70 = .ok (.if_icmp .gt 44, 3) := by decide +kernel
theorem d_Re_next_73 : decode prog_8_method_5_code 73 = .ok (.aload_n 0, 1) := by decide +kernel
theorem d_Re_next_74 : decode prog_8_method_5_code 74 = .ok (.iconst 1, 1) := by decide +kernel
theorem d_Re_next_75 : decode prog_8_method_5_code 75 = .ok (.putfield 51, 3) := by decide +kernel
theorem d_Re_next_78 : decode prog_8_method_5_code 78 = .ok (.iload_n 1, 1) := by decide +kernel
theorem d_Re_next_79 : decode prog_8_method_5_code 79 = .ok (.aload_n 0, 1) := by decide +kernel
theorem d_Re_next_80 : decode prog_8_method_5_code 80 = .ok (.getfield 22, 3) := by decide +kernel
theorem d_Re_next_83 : decode prog_8_method_5_code 83 = .ok (.if_icmp .ge 134, 3) := by decide +kernel
theorem d_Re_next_86 : decode prog_8_method_5_code 86 = .ok (.aload_n 0, 1) := by decide +kernel
theorem d_Re_next_87 : decode prog_8_method_5_code 87 = .ok (.getfield 9, 3) := by decide +kernel
theorem d_Re_next_90 : decode prog_8_method_5_code 90 = .ok (.iload_n 1, 1) := by decide +kernel
theorem d_Re_next_91 : decode prog_8_method_5_code 91 = .ok (.iaload, 1) := by decide +kernel
theorem d_Re_next_92 : decode prog_8_method_5_code 92 = .ok (.bipush 97, 2) := by decide +kernel
theorem d_Re_next_94 : decode prog_8_method_5_code 94 = .ok (.if_icmp .lt 123, 3) := by decide +kernel
theorem d_Re_next_97 : decode prog_8_method_5_code 97 = .ok (.aload_n 0, 1) := by decide +kernel
theorem d_Re_next_98 : decode prog_8_method_5_code 98 = .ok (.getfield 9, 3) := by decide +kernel
theorem d_Re_next_101 : decode prog_8_method_5_code 101 = .ok (.iload_n 1, 1) := by decide +kernel
theorem d_Re_next_102 : decode prog_8_method_5_code 102 = .ok (.iaload, 1) := by decide +kernel
theorem d_Re_next_103 : decode prog_8_method_5_code 103 = .ok (.bipush 122, 2) := by decide +kernel
theorem d_Re_next_105 : decode prog_8_method_5_code 105 = .ok (.if_icmp .gt 112, 3) := by decide +kernel
theorem d_Re_next_108 : decode prog_8_method_5_code 108 = .ok (.iinc 1 1, 3) := by decide +kernel
theorem d_Re_next_111 : decode prog_8_method_5_code 111 = .ok (.goto (-33), 3) := by decide +kernel
theorem d_Re_next_114 : decode prog_8_method_5_code 114 = .ok (.aload_n 0, 1) := by decide +kernel
theorem d_Re_next_115 : decode prog_8_method_5_code 115 = .ok (.getfield 9, 3) := by decide +kernel
theorem d_Re_next_118 : decode prog_8_method_5_code 118 = .ok (.iload_n 1, 1) := by decide +kernel
theorem d_Re_next_119 : decode prog_8_method_5_code 119 = .ok (.iaload, 1) := by decide +kernel
theorem d_Re_next_120 : decode prog_8_method_5_code 120 = .ok (.bipush 48, 2) := by decide +kernel
theorem d_Re_next_122 : decode prog_8_method_5_code 122 = .ok (.if_icmp .lt 87, 3) := by decide +kernel
theorem d_Re_next_125 : decode prog_8_method_5_code 125 = .ok (.aload_n 0, 1) := by decide +kernel
theorem d_Re_next_126 : decode prog_8_method_5_code 126 = .ok (.getfield 9, 3) := by decide +kernel
theorem d_Re_next_129 : decode prog_8_method_5_code 129 = .ok (.iload_n 1, 1) := by decide +kernel
theorem d_Re_next_130 : decode prog_8_method_5_code 130 = .ok (.iaload, 1) := by decide +kernel
theorem d_Re_next_131 : decode prog_8_method_5_code 131 = .ok (.bipush 57, 2) := by decide +kernel
theorem d_Re_next_133 : decode prog_8_method_5_code 133 = .ok (.if_icmp .gt 76, 3) := by decide +kernel
theorem d_Re_next_136 : decode prog_8_method_5_code 136 = .ok (.aload_n 0, 1) := by decide +kernel
theorem d_Re_next_137 : decode prog_8_method_5_code 137 = .ok (.iconst 2, 1) := by decide +kernel
theorem d_Re_next_138 : decode prog_8_method_5_code 138 = .ok (.putfield 51, 3) := by decide +kernel
theorem d_Re_next_141 : decode prog_8_method_5_code 141 = .ok (.aload_n 0, 1) := by decide +kernel
theorem d_Re_next_142 : decode prog_8_method_5_code 142 = .ok (.iconst 0, 1) := by decide +kernel
theorem d_Re_next_143 : decode prog_8_method_5_code 143 = .ok (.putfield 61, 3) := by decide +kernel
theorem d_Re_next_146 : decode prog_8_method_5_code 146 = .ok (.iload_n 1, 1) := by decide +kernel
theorem d_Re_next_147 : decode prog_8_method_5_code 147 = .ok (.aload_n 0, 1) := by decide +kernel
theorem d_Re_next_148 : decode prog_8_method_5_code 148 = .ok (.getfield 22, 3) := by decide +kernel
theorem d_Re_next_151 : decode prog_8_method_5_code 151 = .ok (.if_icmp .ge 66, 3) := by decide +kernel
theorem d_Re_next_154 : decode prog_8_method_5_code 154 = .ok (.aload_n 0, 1) := by decide +kernel
theorem d_Re_next_155 : decode prog_8_method_5_code 155 = .ok (.getfield 9, 3) := by decide +kernel
theorem d_Re_next_158 : decode prog_8_method_5_code 158 = .ok (.iload_n 1, 1) := by decide +kernel
theorem d_Re_next_159 : decode prog_8_method_5_code 159 = .ok (.iaload, 1) := by decide +kernel
theorem d_Re_next_160 : decode prog_8_method_5_code 160 = .ok (.bipush 48, 2) := by decide +kernel
theorem d_Re_next_162 : decode prog_8_method_5_code 162 = .ok (.if_icmp .lt 55, 3) := by decide +kernel
theorem d_Re_next_165 : decode prog_8_method_5_code 165 = .ok (.aload_n 0, 1) := by decide +kernel
theorem d_Re_next_166 : decode prog_8_method_5_code 166 = .ok (.getfield 9, 3) := by decide +kernel
theorem d_Re_next_169 : decode prog_8_method_5_code 169 = .ok (.iload_n 1, 1) := by decide +kernel
theorem d_Re_next_170 : decode prog_8_method_5_code 170 = .ok (.iaload, 1) := by decide +kernel
theorem d_Re_next_171 : decode prog_8_method_5_code 171 = .ok (.bipush 57, 2) := by decide +kernel
theorem d_Re_next_173 : decode prog_8_method_5_code 173 = .ok (.if_icmp .gt 44, 3) := by decide +kernel
theorem d_Re_next_176 : decode prog_8_method_5_code 176 = .ok (.aload_n 0, 1) := by decide +kernel
theorem d_Re_next_177 : decode prog_8_method_5_code 177 = .ok (.sipush 1001, 3) := by decide +kernel
theorem d_Re_next_180 : decode prog_8_method_5_code 180 = .ok (.aload_n 0, 1) := by decide +kernel
theorem d_Re_next_181 : decode prog_8_method_5_code 181 = .ok (.getfield 61, 3) := by decide +kernel
theorem d_Re_next_184 : decode prog_8_method_5_code 184 = .ok (.bipush 10, 2) := by decide +kernel
theorem d_Re_next_186 : decode prog_8_method_5_code 186 = .ok (.imul, 1) := by decide +kernel
theorem d_Re_next_187 : decode prog_8_method_5_code 187 = .ok (.aload_n 0, 1) := by decide +kernel
theorem d_Re_next_188 : decode prog_8_method_5_code 188 = .ok (.getfield 9, 3) := by decide +kernel
theorem d_Re_next_191 : decode prog_8_method_5_code 191 = .ok (.iload_n 1, 1) := by decide +kernel
theorem d_Re_next_192 : decode prog_8_method_5_code 192 = .ok (.iaload, 1) := by decide +kernel
theorem d_Re_next_193 : decode prog_8_method_5_code 193 = .ok (.iadd, 1) := by decide +kernel
theorem d_Re_next_194 : decode prog_8_method_5_code 194 = .ok (.bipush 48, 2) := by decide +kernel
theorem d_Re_next_196 : decode prog_8_method_5_code 196 = .ok (.isub, 1) := by decide +kernel
theorem d_Re_next_197 : decode prog_8_method_5_code 197 = .ok (.invokestatic 64, 3) := by decide +kernel
theorem d_Re_next_200 : decode prog_8_method_5_code 200 = .ok (.putfield 61, 3) := by decide +kernel
theorem d_Re_next_203 : decode prog_8_method_5_code 203 = .ok (.iinc 1 1, 3) := by decide +kernel
theorem d_Re_next_206 : decode prog_8_method_5_code 206 = .ok (.goto (-60), 3) := by decide +kernel
theorem d_Re_next_209 : decode prog_8_method_5_code 209 = .ok (.aload_n 0, 1) := by decide +kernel
theorem d_Re_next_210 : decode prog_8_method_5_code 210 = .ok (.iconst 3, 1) := by decide +kernel
theorem d_Re_next_211 : decode prog_8_method_5_code 211 = .ok (.putfield 51, 3) := by decide +kernel
theorem d_Re_next_214 : decode prog_8_method_5_code 214 = .ok (.iinc 1 1, 3) := by decide +kernel
theorem d_Re_next_217 : decode prog_8_method_5_code 217 = .ok (.aload_n 0, 1) := by decide +kernel
theorem d_Re_next_218 : decode prog_8_method_5_code 218 = .ok (.iload_n 1, 1) := by decide +kernel
theorem d_Re_next_219 : decode prog_8_method_5_code 219 = .ok (.putfield 35, 3) := by decide +kernel
theorem d_Re_next_222 : decode prog_8_method_5_code 222 = .ok (.return_, 1) := by decide +kernel
def w_Re_next {d : Nat} (hd : 3 ≤ d) := (show SS ("DebtDoors$Reader", prog_8_method_5_code, 2) (none) d 0 0 0 0 _ from (sS (p1 := 5) (sIn 1 (xE (rF 9 fl_Re_35 nk_6_9 (rAn 0 d_Re_next_0 rfl) d_Re_next_1 rfl)) d_Re_next_4 rfl (by decide)) (sS (p1 := 30) (sLp (ps := 5) (tt := 24) (pn := 30) (p1 := 0) (p2 := 0) (xC (rAnd (mm := 13) (rNot (rJ2 (tgt := 30) j_ge (rIn 1 d_Re_next_5 rfl) (rF 2 fl_Re_22 nk_6_2 (rAn 0 d_Re_next_6 rfl) d_Re_next_7 rfl) d_Re_next_10 (by decide))) (rNot (rJ2 (tgt := 30) j_ne (rIa (rFr fl_Re_9 nk_6_0 (rAn 0 d_Re_next_13 rfl) d_Re_next_14) (rIn 1 d_Re_next_17 rfl) d_Re_next_18) (rB d_Re_next_19 rfl) d_Re_next_21 (by decide))))) (sGo (pn := 5) (sInc d_Re_next_24 (by decide)) d_Re_next_27 (by decide)) s0) (sS (p1 := 35) (sP 8 fl_Re_58 fp_6_8 nk_6_8 (rAn 0 d_Re_next_30 rfl) (xE (rIn 1 d_Re_next_31 rfl)) d_Re_next_32 rfl) (sS (p1 := 217) (sIe (pn := 217) (tt := 43) (ff := 51) (xC (rNot (rJ2 (tgt := 51) j_lt (rIn 1 d_Re_next_35 rfl) (rF 2 fl_Re_22 nk_6_2 (rAn 0 d_Re_next_36 rfl) d_Re_next_37 rfl) d_Re_next_40 (by decide)))) (sGo (pn := 217) (sP 7 fl_Re_51 fp_6_7 nk_6_7 (rAn 0 d_Re_next_43 rfl) (xE (rI d_Re_next_44 rfl)) d_Re_next_45 rfl) d_Re_next_48 (by decide)) (sIe (pn := 217) (tt := 73) (ff := 114) (xC (rAnd (mm := 62) (rNot (rJ2 (tgt := 114) j_lt (rIa (rFr fl_Re_9 nk_6_0 (rAn 0 d_Re_next_51 rfl) d_Re_next_52) (rIn 1 d_Re_next_55 rfl) d_Re_next_56) (rB d_Re_next_57 rfl) d_Re_next_59 (by decide))) (rNot (rJ2 (tgt := 114) j_gt (rIa (rFr fl_Re_9 nk_6_0 (rAn 0 d_Re_next_62 rfl) d_Re_next_63) (rIn 1 d_Re_next_66 rfl) d_Re_next_67) (rB d_Re_next_68 rfl) d_Re_next_70 (by decide))))) (sS (p1 := 78) (sP 7 fl_Re_51 fp_6_7 nk_6_7 (rAn 0 d_Re_next_73 rfl) (xE (rI d_Re_next_74 rfl)) d_Re_next_75 rfl) (sLp (ps := 78) (tt := 108) (pn := 217) (p1 := 0) (p2 := 0) (xC (rAnd (mm := 97) (rAnd (mm := 86) (rNot (rJ2 (tgt := 217) j_ge (rIn 1 d_Re_next_78 rfl) (rF 2 fl_Re_22 nk_6_2 (rAn 0 d_Re_next_79 rfl) d_Re_next_80 rfl) d_Re_next_83 (by decide))) (rNot (rJ2 (tgt := 217) j_lt (rIa (rFr fl_Re_9 nk_6_0 (rAn 0 d_Re_next_86 rfl) d_Re_next_87) (rIn 1 d_Re_next_90 rfl) d_Re_next_91) (rB d_Re_next_92 rfl) d_Re_next_94 (by decide)))) (rNot (rJ2 (tgt := 217) j_gt (rIa (rFr fl_Re_9 nk_6_0 (rAn 0 d_Re_next_97 rfl) d_Re_next_98) (rIn 1 d_Re_next_101 rfl) d_Re_next_102) (rB d_Re_next_103 rfl) d_Re_next_105 (by decide))))) (sGo (pn := 78) (sInc d_Re_next_108 (by decide)) d_Re_next_111 (by decide)) s0)) (sIe (pn := 217) (tt := 136) (ff := 209) (xC (rAnd (mm := 125) (rNot (rJ2 (tgt := 209) j_lt (rIa (rFr fl_Re_9 nk_6_0 (rAn 0 d_Re_next_114 rfl) d_Re_next_115) (rIn 1 d_Re_next_118 rfl) d_Re_next_119) (rB d_Re_next_120 rfl) d_Re_next_122 (by decide))) (rNot (rJ2 (tgt := 209) j_gt (rIa (rFr fl_Re_9 nk_6_0 (rAn 0 d_Re_next_125 rfl) d_Re_next_126) (rIn 1 d_Re_next_129 rfl) d_Re_next_130) (rB d_Re_next_131 rfl) d_Re_next_133 (by decide))))) (sS (p1 := 141) (sP 7 fl_Re_51 fp_6_7 nk_6_7 (rAn 0 d_Re_next_136 rfl) (xE (rI d_Re_next_137 rfl)) d_Re_next_138 rfl) (sS (p1 := 146) (sP 10 fl_Re_61 fp_6_10 nk_6_10 (rAn 0 d_Re_next_141 rfl) (xE (rI d_Re_next_142 rfl)) d_Re_next_143 rfl) (sLp (ps := 146) (tt := 176) (pn := 217) (p1 := 0) (p2 := 0) (xC (rAnd (mm := 165) (rAnd (mm := 154) (rNot (rJ2 (tgt := 217) j_ge (rIn 1 d_Re_next_146 rfl) (rF 2 fl_Re_22 nk_6_2 (rAn 0 d_Re_next_147 rfl) d_Re_next_148 rfl) d_Re_next_151 (by decide))) (rNot (rJ2 (tgt := 217) j_lt (rIa (rFr fl_Re_9 nk_6_0 (rAn 0 d_Re_next_154 rfl) d_Re_next_155) (rIn 1 d_Re_next_158 rfl) d_Re_next_159) (rB d_Re_next_160 rfl) d_Re_next_162 (by decide)))) (rNot (rJ2 (tgt := 217) j_gt (rIa (rFr fl_Re_9 nk_6_0 (rAn 0 d_Re_next_165 rfl) d_Re_next_166) (rIn 1 d_Re_next_169 rfl) d_Re_next_170) (rB d_Re_next_171 rfl) d_Re_next_173 (by decide))))) (sS (p1 := 203) (sP 10 fl_Re_61 fp_6_10 nk_6_10 (rAn 0 d_Re_next_176 rfl) (xE (rMin km_Re_64 (rSi d_Re_next_177 rfl) (r2 o_sub (r2 o_add (r2 o_mul (rF 10 fl_Re_61 nk_6_10 (rAn 0 d_Re_next_180 rfl) d_Re_next_181 rfl) (rB d_Re_next_184 rfl) d_Re_next_186) (rIa (rFr fl_Re_9 nk_6_0 (rAn 0 d_Re_next_187 rfl) d_Re_next_188) (rIn 1 d_Re_next_191 rfl) d_Re_next_192) d_Re_next_193) (rB d_Re_next_194 rfl) d_Re_next_196) (by decide) (Nat.le_trans (Nat.le_of_ble_eq_true rfl) hd) d_Re_next_197)) d_Re_next_200 rfl) (sGo (pn := 146) (sInc d_Re_next_203 (by decide)) d_Re_next_206 (by decide))) s0))) (sS (p1 := 214) (sP 7 fl_Re_51 fp_6_7 nk_6_7 (rAn 0 d_Re_next_209 rfl) (xE (rI d_Re_next_210 rfl)) d_Re_next_211 rfl) (sInc d_Re_next_214 (by decide)))))) (sS (p1 := 222) (sP 9 fl_Re_35 fp_6_9 nk_6_9 (rAn 0 d_Re_next_217 rfl) (xE (rIn 1 d_Re_next_218 rfl)) d_Re_next_219 rfl) (sRv d_Re_next_222 rfl)))))))
theorem q_Re_next0 {d : Nat} (hd : 4 ≤ d) {μ : zMem} {B : Int → Int} {n k : Nat} (hB : okB B n) (h1 : μ 322 = B) (h2 : μ 321 2 = (n : Int)) (h3 : μ 321 9 = (k : Int)) (hk : k ≤ n) : zSp d 0 0 y_Re_next zT0 [vr 321] μ zT0 (fun r μ' => r = none ∧ NX B n (onE isB B n k) μ' ∧ (∀ j : Int, j ≤ 6 → μ' 321 j = μ 321 j) ∧ zfc [321] μ μ') := by
  refine zSp.ss [vr 321, vx 0] rfl (w_Re_next (Nat.le_trans (by decide) hd)) rfl rfl ?_
  (try simp only [zit_e, Bool.and_eq_true, Bool.or_eq_true, Bool.not_eq_true', Bool.and_eq_false_iff, Bool.or_eq_false_iff, Bool.not_eq_false', zbe, zdt, zdf, zb2_p, zbp_0, zbp_1, zbp_inj, zbp_01, Bool.true_eq_false, Bool.false_eq_true, true_and, and_true, Decidable.not_not, Classical.not_not, implies_true, List.nil_append, List.cons_append, List.append_assoc, Option.some.injEq, Sum.inl.injEq, zSw_c, zSw_n]); (try simp only [zit_e, Bool.and_eq_true, Bool.or_eq_true, Bool.not_eq_true', Bool.and_eq_false_iff, Bool.or_eq_false_iff, Bool.not_eq_false', zbe, zdt, zdf, zb2_p, zbp_0, zbp_1, zbp_inj, zbp_01, Bool.true_eq_false, Bool.false_eq_true, true_and, and_true, Decidable.not_not, Classical.not_not, implies_true, List.nil_append, List.cons_append, List.append_assoc, Option.some.injEq, Sum.inl.injEq, zSw_c, zSw_n, zc_321]); (try simp only [zi_cs, zi_c0, zii_cs, zii_c0, zl_cs, zl_c0, zll_cs, zll_c0, zr_cs, zr_c0, zrr_cs, zrr_c0, zxs_cs, zxs_c0, zxx_cs, zxx_c0, zfree_c0, zfree_c1, zfree_cs, zfree_cz, zlong_i, zlong_r, zlong_x, zset_0, zset_s, true_and, and_true, Option.some.injEq, Sum.inl.injEq, Sum.inr.injEq, zb2_p, zbp_0, zbp_1, zbp_inj, zbp_01, Nat.zero_add, Nat.reduceAdd, implies_true, List.nil_append, List.cons_append, List.append_assoc, Int.not_lt, Int.not_le, Decidable.not_not, Int.zero_add, Int.reduceLE, Int.reduceLT, Int.reduceEq, Int.reduceNe, Int.reduceAdd, Int.reduceSub, Int.reduceMul, Int.reduceNeg, Int.reduceToNat, Nat.reduceMul, Nat.reduceLT, Nat.reduceEqDiff, and_self, ite_true, ite_false, zx1, zx2, zRecv, List.length_cons, List.length_nil, ne_eq, not_true_eq_false, not_false_eq_true, true_or, or_true, or_false, false_or, and_false, false_and, zf01, zf10, reduceCtorEq, zSw_c, zSw_n, zm_r, zit_T, zit_F, false_implies, true_implies, zc_321])
  rw [h3]
  have hB1 := hB.1
  refine zLoop.up (n - k) (fun j ρ μ1 => ρ = [vr 321, vi ((k + j : Nat) : Int)] ∧ μ = μ1 ∧ onE isB B n k = onE isB B n (k + j)) ⟨rfl, rfl, rfl⟩ ?_
  rintro j ρ μ1 hj ⟨rfl, rfl, he⟩
  (try simp only [zit_e, Bool.and_eq_true, Bool.or_eq_true, Bool.not_eq_true', Bool.and_eq_false_iff, Bool.or_eq_false_iff, Bool.not_eq_false', zbe, zdt, zdf, zb2_p, zbp_0, zbp_1, zbp_inj, zbp_01, Bool.true_eq_false, Bool.false_eq_true, true_and, and_true, Decidable.not_not, Classical.not_not, implies_true, List.nil_append, List.cons_append, List.append_assoc, Option.some.injEq, Sum.inl.injEq, zSw_c, zSw_n]); (try simp only [zit_e, Bool.and_eq_true, Bool.or_eq_true, Bool.not_eq_true', Bool.and_eq_false_iff, Bool.or_eq_false_iff, Bool.not_eq_false', zbe, zdt, zdf, zb2_p, zbp_0, zbp_1, zbp_inj, zbp_01, Bool.true_eq_false, Bool.false_eq_true, true_and, and_true, Decidable.not_not, Classical.not_not, implies_true, List.nil_append, List.cons_append, List.append_assoc, Option.some.injEq, Sum.inl.injEq, zSw_c, zSw_n, zc_321]); (try simp only [zi_cs, zi_c0, zii_cs, zii_c0, zl_cs, zl_c0, zll_cs, zll_c0, zr_cs, zr_c0, zrr_cs, zrr_c0, zxs_cs, zxs_c0, zxx_cs, zxx_c0, zfree_c0, zfree_c1, zfree_cs, zfree_cz, zlong_i, zlong_r, zlong_x, zset_0, zset_s, true_and, and_true, Option.some.injEq, Sum.inl.injEq, Sum.inr.injEq, zb2_p, zbp_0, zbp_1, zbp_inj, zbp_01, Nat.zero_add, Nat.reduceAdd, implies_true, List.nil_append, List.cons_append, List.append_assoc, Int.not_lt, Int.not_le, Decidable.not_not, Int.zero_add, Int.reduceLE, Int.reduceLT, Int.reduceEq, Int.reduceNe, Int.reduceAdd, Int.reduceSub, Int.reduceMul, Int.reduceNeg, Int.reduceToNat, Nat.reduceMul, Nat.reduceLT, Nat.reduceEqDiff, and_self, ite_true, ite_false, zx1, zx2, zRecv, List.length_cons, List.length_nil, ne_eq, not_true_eq_false, not_false_eq_true, true_or, or_true, or_false, false_or, and_false, false_and, zf01, zf10, reduceCtorEq, zSw_c, zSw_n, zm_r, zit_T, zit_F, false_implies, true_implies, zc_321])
  rw [h1, h2]
  refine ⟨fun q => by omega, ?_⟩
  refine zif (fun c => ?_) (fun c => ?_)
  · refine ⟨zI_s (by omega) (by omega), znx (by omega) ⟨?_, he.trans (onE_t (by omega) (by rw [isB_e]; exact c.2))⟩⟩
    rw [show k + (j + 1) = k + j + 1 by omega, Int.natCast_add (k + j) 1]
    rfl
  have ep : onE isB B n k = k + j := he.trans (onE_f (fun q => c ⟨by omega, by have := q.2; rw [isB_e] at this; exact this⟩))
  rw [ep]
  have hpn : k + j ≤ n := by omega
  clear he ep c hj
  generalize k + j = p at *
  refine zif (fun c => ?_) (fun c => ?_)
  · refine ⟨⟨⟨?_, ?_⟩, ?_, ?_, ?_, fun q => absurd q (by omega)⟩, fun y hy => ?_, ((zfc.rf.zm (by decide)).zm (by decide)).zm (by decide)⟩
    · rw [zm_off 322 (by decide), zm_off 322 (by decide), zm_off 322 (by decide), h1]
    · simp only [zi_cs, zi_c0, zii_cs, zii_c0, zl_cs, zl_c0, zll_cs, zll_c0, zr_cs, zr_c0, zrr_cs, zrr_c0, zxs_cs, zxs_c0, zxx_cs, zxx_c0, zfree_c0, zfree_c1, zfree_cs, zfree_cz, zlong_i, zlong_r, zlong_x, zset_0, zset_s, true_and, and_true, Option.some.injEq, Sum.inl.injEq, Sum.inr.injEq, zb2_p, zbp_0, zbp_1, zbp_inj, zbp_01, Nat.zero_add, Nat.reduceAdd, implies_true, List.nil_append, List.cons_append, List.append_assoc, Int.not_lt, Int.not_le, Decidable.not_not, Int.zero_add, Int.reduceLE, Int.reduceLT, Int.reduceEq, Int.reduceNe, Int.reduceAdd, Int.reduceSub, Int.reduceMul, Int.reduceNeg, Int.reduceToNat, Nat.reduceMul, Nat.reduceLT, Nat.reduceEqDiff, and_self, ite_true, ite_false, zx1, zx2, zRecv, List.length_cons, List.length_nil, ne_eq, not_true_eq_false, not_false_eq_true, true_or, or_true, or_false, false_or, and_false, false_and, zf01, zf10, reduceCtorEq, zSw_c, zSw_n, zm_r, zit_T, zit_F, false_implies, true_implies]
      exact h2
    · simp only [zi_cs, zi_c0, zii_cs, zii_c0, zl_cs, zl_c0, zll_cs, zll_c0, zr_cs, zr_c0, zrr_cs, zrr_c0, zxs_cs, zxs_c0, zxx_cs, zxx_c0, zfree_c0, zfree_c1, zfree_cs, zfree_cz, zlong_i, zlong_r, zlong_x, zset_0, zset_s, true_and, and_true, Option.some.injEq, Sum.inl.injEq, Sum.inr.injEq, zb2_p, zbp_0, zbp_1, zbp_inj, zbp_01, Nat.zero_add, Nat.reduceAdd, implies_true, List.nil_append, List.cons_append, List.append_assoc, Int.not_lt, Int.not_le, Decidable.not_not, Int.zero_add, Int.reduceLE, Int.reduceLT, Int.reduceEq, Int.reduceNe, Int.reduceAdd, Int.reduceSub, Int.reduceMul, Int.reduceNeg, Int.reduceToNat, Nat.reduceMul, Nat.reduceLT, Nat.reduceEqDiff, and_self, ite_true, ite_false, zx1, zx2, zRecv, List.length_cons, List.length_nil, ne_eq, not_true_eq_false, not_false_eq_true, true_or, or_true, or_false, false_or, and_false, false_and, zf01, zf10, reduceCtorEq, zSw_c, zSw_n, zm_r, zit_T, zit_F, false_implies, true_implies]
    · simp only [zi_cs, zi_c0, zii_cs, zii_c0, zl_cs, zl_c0, zll_cs, zll_c0, zr_cs, zr_c0, zrr_cs, zrr_c0, zxs_cs, zxs_c0, zxx_cs, zxx_c0, zfree_c0, zfree_c1, zfree_cs, zfree_cz, zlong_i, zlong_r, zlong_x, zset_0, zset_s, true_and, and_true, Option.some.injEq, Sum.inl.injEq, Sum.inr.injEq, zb2_p, zbp_0, zbp_1, zbp_inj, zbp_01, Nat.zero_add, Nat.reduceAdd, implies_true, List.nil_append, List.cons_append, List.append_assoc, Int.not_lt, Int.not_le, Decidable.not_not, Int.zero_add, Int.reduceLE, Int.reduceLT, Int.reduceEq, Int.reduceNe, Int.reduceAdd, Int.reduceSub, Int.reduceMul, Int.reduceNeg, Int.reduceToNat, Nat.reduceMul, Nat.reduceLT, Nat.reduceEqDiff, and_self, ite_true, ite_false, zx1, zx2, zRecv, List.length_cons, List.length_nil, ne_eq, not_true_eq_false, not_false_eq_true, true_or, or_true, or_false, false_or, and_false, false_and, zf01, zf10, reduceCtorEq, zSw_c, zSw_n, zm_r, zit_T, zit_F, false_implies, true_implies]
      rw [if_neg (by omega)]
    · simp only [zi_cs, zi_c0, zii_cs, zii_c0, zl_cs, zl_c0, zll_cs, zll_c0, zr_cs, zr_c0, zrr_cs, zrr_c0, zxs_cs, zxs_c0, zxx_cs, zxx_c0, zfree_c0, zfree_c1, zfree_cs, zfree_cz, zlong_i, zlong_r, zlong_x, zset_0, zset_s, true_and, and_true, Option.some.injEq, Sum.inl.injEq, Sum.inr.injEq, zb2_p, zbp_0, zbp_1, zbp_inj, zbp_01, Nat.zero_add, Nat.reduceAdd, implies_true, List.nil_append, List.cons_append, List.append_assoc, Int.not_lt, Int.not_le, Decidable.not_not, Int.zero_add, Int.reduceLE, Int.reduceLT, Int.reduceEq, Int.reduceNe, Int.reduceAdd, Int.reduceSub, Int.reduceMul, Int.reduceNeg, Int.reduceToNat, Nat.reduceMul, Nat.reduceLT, Nat.reduceEqDiff, and_self, ite_true, ite_false, zx1, zx2, zRecv, List.length_cons, List.length_nil, ne_eq, not_true_eq_false, not_false_eq_true, true_or, or_true, or_false, false_or, and_false, false_and, zf01, zf10, reduceCtorEq, zSw_c, zSw_n, zm_r, zit_T, zit_F, false_implies, true_implies]
      rw [if_neg (by omega)]
    · (repeat (first | rw [zit_f (by omega)] | rw [zit_t (by omega)]))
  have hpl : p < n := by omega
  refine ⟨by omega, ?_⟩
  refine zif (fun c2 => ?_) (fun c2 => ?_)
  · have hL : isL (B p) = true := by rw [isL_e]; exact c2
    refine zLoop.up (n - p) (fun j ρ μ1 => ρ = [vr 321, vi ((p + j : Nat) : Int)] ∧ μ1 = zm (zm μ 321 8 p) 321 7 1 ∧ onE isL B n p = onE isL B n (p + j)) ⟨rfl, rfl, rfl⟩ ?_
    rintro j ρ μ1 hj ⟨rfl, rfl, he⟩
    (try simp only [zit_e, Bool.and_eq_true, Bool.or_eq_true, Bool.not_eq_true', Bool.and_eq_false_iff, Bool.or_eq_false_iff, Bool.not_eq_false', zbe, zdt, zdf, zb2_p, zbp_0, zbp_1, zbp_inj, zbp_01, Bool.true_eq_false, Bool.false_eq_true, true_and, and_true, Decidable.not_not, Classical.not_not, implies_true, List.nil_append, List.cons_append, List.append_assoc, Option.some.injEq, Sum.inl.injEq, zSw_c, zSw_n]); (try simp only [zit_e, Bool.and_eq_true, Bool.or_eq_true, Bool.not_eq_true', Bool.and_eq_false_iff, Bool.or_eq_false_iff, Bool.not_eq_false', zbe, zdt, zdf, zb2_p, zbp_0, zbp_1, zbp_inj, zbp_01, Bool.true_eq_false, Bool.false_eq_true, true_and, and_true, Decidable.not_not, Classical.not_not, implies_true, List.nil_append, List.cons_append, List.append_assoc, Option.some.injEq, Sum.inl.injEq, zSw_c, zSw_n, zc_321]); (try simp only [zi_cs, zi_c0, zii_cs, zii_c0, zl_cs, zl_c0, zll_cs, zll_c0, zr_cs, zr_c0, zrr_cs, zrr_c0, zxs_cs, zxs_c0, zxx_cs, zxx_c0, zfree_c0, zfree_c1, zfree_cs, zfree_cz, zlong_i, zlong_r, zlong_x, zset_0, zset_s, true_and, and_true, Option.some.injEq, Sum.inl.injEq, Sum.inr.injEq, zb2_p, zbp_0, zbp_1, zbp_inj, zbp_01, Nat.zero_add, Nat.reduceAdd, implies_true, List.nil_append, List.cons_append, List.append_assoc, Int.not_lt, Int.not_le, Decidable.not_not, Int.zero_add, Int.reduceLE, Int.reduceLT, Int.reduceEq, Int.reduceNe, Int.reduceAdd, Int.reduceSub, Int.reduceMul, Int.reduceNeg, Int.reduceToNat, Nat.reduceMul, Nat.reduceLT, Nat.reduceEqDiff, and_self, ite_true, ite_false, zx1, zx2, zRecv, List.length_cons, List.length_nil, ne_eq, not_true_eq_false, not_false_eq_true, true_or, or_true, or_false, false_or, and_false, false_and, zf01, zf10, reduceCtorEq, zSw_c, zSw_n, zm_r, zit_T, zit_F, false_implies, true_implies, zc_321])
    rw [h1, h2]
    refine ⟨⟨fun q => by omega, fun q => by omega⟩, ?_⟩
    refine zif (fun c => ?_) (fun c => ?_)
    · refine ⟨zI_s (by omega) (by omega), znx (by omega) ⟨?_, he.trans (onE_t (by omega) (by rw [isL_e]; exact ⟨c.1.2, c.2⟩))⟩⟩
      rw [show p + (j + 1) = p + j + 1 by omega, Int.natCast_add (p + j) 1]
      rfl
    have ep : tE B n p = p + j := (tE_L hpl hL).trans (he.trans (onE_f (fun q => c (by have := q.2; rw [isL_e] at this; exact ⟨⟨by omega, this.1⟩, this.2⟩))))
    refine ⟨⟨⟨?_, ?_⟩, ?_, ?_, ?_, fun _ q => ?_⟩, fun y hy => ?_, ((zfc.rf.zm (by decide)).zm (by decide)).zm (by decide)⟩
    · rw [zm_off 322 (by decide), zm_off 322 (by decide), zm_off 322 (by decide), h1]
    · simp only [zi_cs, zi_c0, zii_cs, zii_c0, zl_cs, zl_c0, zll_cs, zll_c0, zr_cs, zr_c0, zrr_cs, zrr_c0, zxs_cs, zxs_c0, zxx_cs, zxx_c0, zfree_c0, zfree_c1, zfree_cs, zfree_cz, zlong_i, zlong_r, zlong_x, zset_0, zset_s, true_and, and_true, Option.some.injEq, Sum.inl.injEq, Sum.inr.injEq, zb2_p, zbp_0, zbp_1, zbp_inj, zbp_01, Nat.zero_add, Nat.reduceAdd, implies_true, List.nil_append, List.cons_append, List.append_assoc, Int.not_lt, Int.not_le, Decidable.not_not, Int.zero_add, Int.reduceLE, Int.reduceLT, Int.reduceEq, Int.reduceNe, Int.reduceAdd, Int.reduceSub, Int.reduceMul, Int.reduceNeg, Int.reduceToNat, Nat.reduceMul, Nat.reduceLT, Nat.reduceEqDiff, and_self, ite_true, ite_false, zx1, zx2, zRecv, List.length_cons, List.length_nil, ne_eq, not_true_eq_false, not_false_eq_true, true_or, or_true, or_false, false_or, and_false, false_and, zf01, zf10, reduceCtorEq, zSw_c, zSw_n, zm_r, zit_T, zit_F, false_implies, true_implies]
      exact h2
    · simp only [zi_cs, zi_c0, zii_cs, zii_c0, zl_cs, zl_c0, zll_cs, zll_c0, zr_cs, zr_c0, zrr_cs, zrr_c0, zxs_cs, zxs_c0, zxx_cs, zxx_c0, zfree_c0, zfree_c1, zfree_cs, zfree_cz, zlong_i, zlong_r, zlong_x, zset_0, zset_s, true_and, and_true, Option.some.injEq, Sum.inl.injEq, Sum.inr.injEq, zb2_p, zbp_0, zbp_1, zbp_inj, zbp_01, Nat.zero_add, Nat.reduceAdd, implies_true, List.nil_append, List.cons_append, List.append_assoc, Int.not_lt, Int.not_le, Decidable.not_not, Int.zero_add, Int.reduceLE, Int.reduceLT, Int.reduceEq, Int.reduceNe, Int.reduceAdd, Int.reduceSub, Int.reduceMul, Int.reduceNeg, Int.reduceToNat, Nat.reduceMul, Nat.reduceLT, Nat.reduceEqDiff, and_self, ite_true, ite_false, zx1, zx2, zRecv, List.length_cons, List.length_nil, ne_eq, not_true_eq_false, not_false_eq_true, true_or, or_true, or_false, false_or, and_false, false_and, zf01, zf10, reduceCtorEq, zSw_c, zSw_n, zm_r, zit_T, zit_F, false_implies, true_implies]
    · simp only [zi_cs, zi_c0, zii_cs, zii_c0, zl_cs, zl_c0, zll_cs, zll_c0, zr_cs, zr_c0, zrr_cs, zrr_c0, zxs_cs, zxs_c0, zxx_cs, zxx_c0, zfree_c0, zfree_c1, zfree_cs, zfree_cz, zlong_i, zlong_r, zlong_x, zset_0, zset_s, true_and, and_true, Option.some.injEq, Sum.inl.injEq, Sum.inr.injEq, zb2_p, zbp_0, zbp_1, zbp_inj, zbp_01, Nat.zero_add, Nat.reduceAdd, implies_true, List.nil_append, List.cons_append, List.append_assoc, Int.not_lt, Int.not_le, Decidable.not_not, Int.zero_add, Int.reduceLE, Int.reduceLT, Int.reduceEq, Int.reduceNe, Int.reduceAdd, Int.reduceSub, Int.reduceMul, Int.reduceNeg, Int.reduceToNat, Nat.reduceMul, Nat.reduceLT, Nat.reduceEqDiff, and_self, ite_true, ite_false, zx1, zx2, zRecv, List.length_cons, List.length_nil, ne_eq, not_true_eq_false, not_false_eq_true, true_or, or_true, or_false, false_or, and_false, false_and, zf01, zf10, reduceCtorEq, zSw_c, zSw_n, zm_r, zit_T, zit_F, false_implies, true_implies]
      rw [if_pos hpl, ep]
    · simp only [zi_cs, zi_c0, zii_cs, zii_c0, zl_cs, zl_c0, zll_cs, zll_c0, zr_cs, zr_c0, zrr_cs, zrr_c0, zxs_cs, zxs_c0, zxx_cs, zxx_c0, zfree_c0, zfree_c1, zfree_cs, zfree_cz, zlong_i, zlong_r, zlong_x, zset_0, zset_s, true_and, and_true, Option.some.injEq, Sum.inl.injEq, Sum.inr.injEq, zb2_p, zbp_0, zbp_1, zbp_inj, zbp_01, Nat.zero_add, Nat.reduceAdd, implies_true, List.nil_append, List.cons_append, List.append_assoc, Int.not_lt, Int.not_le, Decidable.not_not, Int.zero_add, Int.reduceLE, Int.reduceLT, Int.reduceEq, Int.reduceNe, Int.reduceAdd, Int.reduceSub, Int.reduceMul, Int.reduceNeg, Int.reduceToNat, Nat.reduceMul, Nat.reduceLT, Nat.reduceEqDiff, and_self, ite_true, ite_false, zx1, zx2, zRecv, List.length_cons, List.length_nil, ne_eq, not_true_eq_false, not_false_eq_true, true_or, or_true, or_false, false_or, and_false, false_and, zf01, zf10, reduceCtorEq, zSw_c, zSw_n, zm_r, zit_T, zit_F, false_implies, true_implies]
      rw [if_pos hpl, if_pos hL]
    · rw [isD_L q] at hL
      cases hL
    · (repeat (first | rw [zit_f (by omega)] | rw [zit_t (by omega)]))
  have hL : ¬ isL (B p) = true := by rw [isL_e]; exact c2
  refine ⟨by omega, ?_⟩
  refine zif (fun c3 => ?_) (fun c3 => ?_)
  · have hD : isD (B p) = true := by rw [isD_e]; exact c3
    have hdig := tE_dig (n := n) hD
    have hti := tE_in (B := B) hpl
    refine zLoop.up (n - p) (fun j ρ μ1 => ρ = [vr 321, vi ((p + j : Nat) : Int)] ∧ μ1 = zm (zm (zm μ 321 8 p) 321 7 2) 321 10 (min 1001 (dV B p j)) ∧ onE isD B n p = onE isD B n (p + j) ∧ ∀ i : Nat, i < j → 48 ≤ B (p + i) ∧ B (p + i) ≤ 57) ⟨rfl, rfl, rfl, fun i hi => by omega⟩ ?_
    rintro j ρ μ1 hj ⟨rfl, rfl, he, hdd⟩
    (try simp only [zit_e, Bool.and_eq_true, Bool.or_eq_true, Bool.not_eq_true', Bool.and_eq_false_iff, Bool.or_eq_false_iff, Bool.not_eq_false', zbe, zdt, zdf, zb2_p, zbp_0, zbp_1, zbp_inj, zbp_01, Bool.true_eq_false, Bool.false_eq_true, true_and, and_true, Decidable.not_not, Classical.not_not, implies_true, List.nil_append, List.cons_append, List.append_assoc, Option.some.injEq, Sum.inl.injEq, zSw_c, zSw_n]); (try simp only [zit_e, Bool.and_eq_true, Bool.or_eq_true, Bool.not_eq_true', Bool.and_eq_false_iff, Bool.or_eq_false_iff, Bool.not_eq_false', zbe, zdt, zdf, zb2_p, zbp_0, zbp_1, zbp_inj, zbp_01, Bool.true_eq_false, Bool.false_eq_true, true_and, and_true, Decidable.not_not, Classical.not_not, implies_true, List.nil_append, List.cons_append, List.append_assoc, Option.some.injEq, Sum.inl.injEq, zSw_c, zSw_n, zc_321]); (try simp only [zi_cs, zi_c0, zii_cs, zii_c0, zl_cs, zl_c0, zll_cs, zll_c0, zr_cs, zr_c0, zrr_cs, zrr_c0, zxs_cs, zxs_c0, zxx_cs, zxx_c0, zfree_c0, zfree_c1, zfree_cs, zfree_cz, zlong_i, zlong_r, zlong_x, zset_0, zset_s, true_and, and_true, Option.some.injEq, Sum.inl.injEq, Sum.inr.injEq, zb2_p, zbp_0, zbp_1, zbp_inj, zbp_01, Nat.zero_add, Nat.reduceAdd, implies_true, List.nil_append, List.cons_append, List.append_assoc, Int.not_lt, Int.not_le, Decidable.not_not, Int.zero_add, Int.reduceLE, Int.reduceLT, Int.reduceEq, Int.reduceNe, Int.reduceAdd, Int.reduceSub, Int.reduceMul, Int.reduceNeg, Int.reduceToNat, Nat.reduceMul, Nat.reduceLT, Nat.reduceEqDiff, and_self, ite_true, ite_false, zx1, zx2, zRecv, List.length_cons, List.length_nil, ne_eq, not_true_eq_false, not_false_eq_true, true_or, or_true, or_false, false_or, and_false, false_and, zf01, zf10, reduceCtorEq, zSw_c, zSw_n, zm_r, zit_T, zit_F, false_implies, true_implies, zc_321])
    rw [h1, h2]
    have hdi := dV_in (B := B) (k := p) j hdd
    refine ⟨⟨fun q => by omega, fun q => by omega⟩, ?_⟩
    refine zif (fun c => ?_) (fun c => ?_)
    · have hdd' : ∀ i : Nat, i < j + 1 → 48 ≤ B (p + i) ∧ B (p + i) ≤ 57 := fun i hi => by
        by_cases e : i = j
        · rw [e, ← Int.natCast_add]
          exact ⟨c.1.2, c.2⟩
        · exact hdd i (by omega)
      refine ⟨by ((try simp only [zI_e]); (first | done | omega | skip)), zI_s (by omega) (by omega), znx (by omega) ⟨?_, ?_, he.trans (onE_t (by omega) (by rw [isD_e]; exact ⟨c.1.2, c.2⟩)), hdd'⟩⟩
      · rw [show p + (j + 1) = p + j + 1 by omega, Int.natCast_add (p + j) 1]
        rfl
      · rw [zm_zm, Int.natCast_add, dV_min hdd']
    have ep : tE B n p = p + j := (tE_D2 hpl hD).trans (he.trans (onE_f (fun q => c (by have := q.2; rw [isD_e] at this; exact ⟨⟨by omega, this.1⟩, this.2⟩))))
    refine ⟨⟨⟨?_, ?_⟩, ?_, ?_, ?_, fun _ q => ?_⟩, fun y hy => ?_, (((zfc.rf.zm (by decide)).zm (by decide)).zm (by decide)).zm (by decide)⟩
    · rw [zm_off 322 (by decide), zm_off 322 (by decide), zm_off 322 (by decide), zm_off 322 (by decide), h1]
    · simp only [zi_cs, zi_c0, zii_cs, zii_c0, zl_cs, zl_c0, zll_cs, zll_c0, zr_cs, zr_c0, zrr_cs, zrr_c0, zxs_cs, zxs_c0, zxx_cs, zxx_c0, zfree_c0, zfree_c1, zfree_cs, zfree_cz, zlong_i, zlong_r, zlong_x, zset_0, zset_s, true_and, and_true, Option.some.injEq, Sum.inl.injEq, Sum.inr.injEq, zb2_p, zbp_0, zbp_1, zbp_inj, zbp_01, Nat.zero_add, Nat.reduceAdd, implies_true, List.nil_append, List.cons_append, List.append_assoc, Int.not_lt, Int.not_le, Decidable.not_not, Int.zero_add, Int.reduceLE, Int.reduceLT, Int.reduceEq, Int.reduceNe, Int.reduceAdd, Int.reduceSub, Int.reduceMul, Int.reduceNeg, Int.reduceToNat, Nat.reduceMul, Nat.reduceLT, Nat.reduceEqDiff, and_self, ite_true, ite_false, zx1, zx2, zRecv, List.length_cons, List.length_nil, ne_eq, not_true_eq_false, not_false_eq_true, true_or, or_true, or_false, false_or, and_false, false_and, zf01, zf10, reduceCtorEq, zSw_c, zSw_n, zm_r, zit_T, zit_F, false_implies, true_implies]
      exact h2
    · simp only [zi_cs, zi_c0, zii_cs, zii_c0, zl_cs, zl_c0, zll_cs, zll_c0, zr_cs, zr_c0, zrr_cs, zrr_c0, zxs_cs, zxs_c0, zxx_cs, zxx_c0, zfree_c0, zfree_c1, zfree_cs, zfree_cz, zlong_i, zlong_r, zlong_x, zset_0, zset_s, true_and, and_true, Option.some.injEq, Sum.inl.injEq, Sum.inr.injEq, zb2_p, zbp_0, zbp_1, zbp_inj, zbp_01, Nat.zero_add, Nat.reduceAdd, implies_true, List.nil_append, List.cons_append, List.append_assoc, Int.not_lt, Int.not_le, Decidable.not_not, Int.zero_add, Int.reduceLE, Int.reduceLT, Int.reduceEq, Int.reduceNe, Int.reduceAdd, Int.reduceSub, Int.reduceMul, Int.reduceNeg, Int.reduceToNat, Nat.reduceMul, Nat.reduceLT, Nat.reduceEqDiff, and_self, ite_true, ite_false, zx1, zx2, zRecv, List.length_cons, List.length_nil, ne_eq, not_true_eq_false, not_false_eq_true, true_or, or_true, or_false, false_or, and_false, false_and, zf01, zf10, reduceCtorEq, zSw_c, zSw_n, zm_r, zit_T, zit_F, false_implies, true_implies]
    · simp only [zi_cs, zi_c0, zii_cs, zii_c0, zl_cs, zl_c0, zll_cs, zll_c0, zr_cs, zr_c0, zrr_cs, zrr_c0, zxs_cs, zxs_c0, zxx_cs, zxx_c0, zfree_c0, zfree_c1, zfree_cs, zfree_cz, zlong_i, zlong_r, zlong_x, zset_0, zset_s, true_and, and_true, Option.some.injEq, Sum.inl.injEq, Sum.inr.injEq, zb2_p, zbp_0, zbp_1, zbp_inj, zbp_01, Nat.zero_add, Nat.reduceAdd, implies_true, List.nil_append, List.cons_append, List.append_assoc, Int.not_lt, Int.not_le, Decidable.not_not, Int.zero_add, Int.reduceLE, Int.reduceLT, Int.reduceEq, Int.reduceNe, Int.reduceAdd, Int.reduceSub, Int.reduceMul, Int.reduceNeg, Int.reduceToNat, Nat.reduceMul, Nat.reduceLT, Nat.reduceEqDiff, and_self, ite_true, ite_false, zx1, zx2, zRecv, List.length_cons, List.length_nil, ne_eq, not_true_eq_false, not_false_eq_true, true_or, or_true, or_false, false_or, and_false, false_and, zf01, zf10, reduceCtorEq, zSw_c, zSw_n, zm_r, zit_T, zit_F, false_implies, true_implies]
      rw [if_pos hpl, ep]
    · simp only [zi_cs, zi_c0, zii_cs, zii_c0, zl_cs, zl_c0, zll_cs, zll_c0, zr_cs, zr_c0, zrr_cs, zrr_c0, zxs_cs, zxs_c0, zxx_cs, zxx_c0, zfree_c0, zfree_c1, zfree_cs, zfree_cz, zlong_i, zlong_r, zlong_x, zset_0, zset_s, true_and, and_true, Option.some.injEq, Sum.inl.injEq, Sum.inr.injEq, zb2_p, zbp_0, zbp_1, zbp_inj, zbp_01, Nat.zero_add, Nat.reduceAdd, implies_true, List.nil_append, List.cons_append, List.append_assoc, Int.not_lt, Int.not_le, Decidable.not_not, Int.zero_add, Int.reduceLE, Int.reduceLT, Int.reduceEq, Int.reduceNe, Int.reduceAdd, Int.reduceSub, Int.reduceMul, Int.reduceNeg, Int.reduceToNat, Nat.reduceMul, Nat.reduceLT, Nat.reduceEqDiff, and_self, ite_true, ite_false, zx1, zx2, zRecv, List.length_cons, List.length_nil, ne_eq, not_true_eq_false, not_false_eq_true, true_or, or_true, or_false, false_or, and_false, false_and, zf01, zf10, reduceCtorEq, zSw_c, zSw_n, zm_r, zit_T, zit_F, false_implies, true_implies]
      rw [if_pos hpl, if_neg hL, if_pos hD]
    · simp only [zi_cs, zi_c0, zii_cs, zii_c0, zl_cs, zl_c0, zll_cs, zll_c0, zr_cs, zr_c0, zrr_cs, zrr_c0, zxs_cs, zxs_c0, zxx_cs, zxx_c0, zfree_c0, zfree_c1, zfree_cs, zfree_cz, zlong_i, zlong_r, zlong_x, zset_0, zset_s, true_and, and_true, Option.some.injEq, Sum.inl.injEq, Sum.inr.injEq, zb2_p, zbp_0, zbp_1, zbp_inj, zbp_01, Nat.zero_add, Nat.reduceAdd, implies_true, List.nil_append, List.cons_append, List.append_assoc, Int.not_lt, Int.not_le, Decidable.not_not, Int.zero_add, Int.reduceLE, Int.reduceLT, Int.reduceEq, Int.reduceNe, Int.reduceAdd, Int.reduceSub, Int.reduceMul, Int.reduceNeg, Int.reduceToNat, Nat.reduceMul, Nat.reduceLT, Nat.reduceEqDiff, and_self, ite_true, ite_false, zx1, zx2, zRecv, List.length_cons, List.length_nil, ne_eq, not_true_eq_false, not_false_eq_true, true_or, or_true, or_false, false_or, and_false, false_and, zf01, zf10, reduceCtorEq, zSw_c, zSw_n, zm_r, zit_T, zit_F, false_implies, true_implies]
      unfold tV
      rw [if_pos hD, ep, Nat.add_sub_cancel_left]
    · (repeat (first | rw [zit_f (by omega)] | rw [zit_t (by omega)]))
  have hD : ¬ isD (B p) = true := by rw [isD_e]; exact c3
  have ep : tE B n p = p + 1 := by
    unfold tE
    rw [if_neg hL, if_neg hD]
  refine ⟨zI_s (by omega) (by omega), ⟨⟨?_, ?_⟩, ?_, ?_, ?_, fun _ q => absurd q hD⟩, fun y hy => ?_, ((zfc.rf.zm (by decide)).zm (by decide)).zm (by decide)⟩
  · rw [zm_off 322 (by decide), zm_off 322 (by decide), zm_off 322 (by decide), h1]
  · simp only [zi_cs, zi_c0, zii_cs, zii_c0, zl_cs, zl_c0, zll_cs, zll_c0, zr_cs, zr_c0, zrr_cs, zrr_c0, zxs_cs, zxs_c0, zxx_cs, zxx_c0, zfree_c0, zfree_c1, zfree_cs, zfree_cz, zlong_i, zlong_r, zlong_x, zset_0, zset_s, true_and, and_true, Option.some.injEq, Sum.inl.injEq, Sum.inr.injEq, zb2_p, zbp_0, zbp_1, zbp_inj, zbp_01, Nat.zero_add, Nat.reduceAdd, implies_true, List.nil_append, List.cons_append, List.append_assoc, Int.not_lt, Int.not_le, Decidable.not_not, Int.zero_add, Int.reduceLE, Int.reduceLT, Int.reduceEq, Int.reduceNe, Int.reduceAdd, Int.reduceSub, Int.reduceMul, Int.reduceNeg, Int.reduceToNat, Nat.reduceMul, Nat.reduceLT, Nat.reduceEqDiff, and_self, ite_true, ite_false, zx1, zx2, zRecv, List.length_cons, List.length_nil, ne_eq, not_true_eq_false, not_false_eq_true, true_or, or_true, or_false, false_or, and_false, false_and, zf01, zf10, reduceCtorEq, zSw_c, zSw_n, zm_r, zit_T, zit_F, false_implies, true_implies]
    exact h2
  · simp only [zi_cs, zi_c0, zii_cs, zii_c0, zl_cs, zl_c0, zll_cs, zll_c0, zr_cs, zr_c0, zrr_cs, zrr_c0, zxs_cs, zxs_c0, zxx_cs, zxx_c0, zfree_c0, zfree_c1, zfree_cs, zfree_cz, zlong_i, zlong_r, zlong_x, zset_0, zset_s, true_and, and_true, Option.some.injEq, Sum.inl.injEq, Sum.inr.injEq, zb2_p, zbp_0, zbp_1, zbp_inj, zbp_01, Nat.zero_add, Nat.reduceAdd, implies_true, List.nil_append, List.cons_append, List.append_assoc, Int.not_lt, Int.not_le, Decidable.not_not, Int.zero_add, Int.reduceLE, Int.reduceLT, Int.reduceEq, Int.reduceNe, Int.reduceAdd, Int.reduceSub, Int.reduceMul, Int.reduceNeg, Int.reduceToNat, Nat.reduceMul, Nat.reduceLT, Nat.reduceEqDiff, and_self, ite_true, ite_false, zx1, zx2, zRecv, List.length_cons, List.length_nil, ne_eq, not_true_eq_false, not_false_eq_true, true_or, or_true, or_false, false_or, and_false, false_and, zf01, zf10, reduceCtorEq, zSw_c, zSw_n, zm_r, zit_T, zit_F, false_implies, true_implies]
  · simp only [zi_cs, zi_c0, zii_cs, zii_c0, zl_cs, zl_c0, zll_cs, zll_c0, zr_cs, zr_c0, zrr_cs, zrr_c0, zxs_cs, zxs_c0, zxx_cs, zxx_c0, zfree_c0, zfree_c1, zfree_cs, zfree_cz, zlong_i, zlong_r, zlong_x, zset_0, zset_s, true_and, and_true, Option.some.injEq, Sum.inl.injEq, Sum.inr.injEq, zb2_p, zbp_0, zbp_1, zbp_inj, zbp_01, Nat.zero_add, Nat.reduceAdd, implies_true, List.nil_append, List.cons_append, List.append_assoc, Int.not_lt, Int.not_le, Decidable.not_not, Int.zero_add, Int.reduceLE, Int.reduceLT, Int.reduceEq, Int.reduceNe, Int.reduceAdd, Int.reduceSub, Int.reduceMul, Int.reduceNeg, Int.reduceToNat, Nat.reduceMul, Nat.reduceLT, Nat.reduceEqDiff, and_self, ite_true, ite_false, zx1, zx2, zRecv, List.length_cons, List.length_nil, ne_eq, not_true_eq_false, not_false_eq_true, true_or, or_true, or_false, false_or, and_false, false_and, zf01, zf10, reduceCtorEq, zSw_c, zSw_n, zm_r, zit_T, zit_F, false_implies, true_implies]
    rw [if_pos hpl, ep]
    rfl
  · simp only [zi_cs, zi_c0, zii_cs, zii_c0, zl_cs, zl_c0, zll_cs, zll_c0, zr_cs, zr_c0, zrr_cs, zrr_c0, zxs_cs, zxs_c0, zxx_cs, zxx_c0, zfree_c0, zfree_c1, zfree_cs, zfree_cz, zlong_i, zlong_r, zlong_x, zset_0, zset_s, true_and, and_true, Option.some.injEq, Sum.inl.injEq, Sum.inr.injEq, zb2_p, zbp_0, zbp_1, zbp_inj, zbp_01, Nat.zero_add, Nat.reduceAdd, implies_true, List.nil_append, List.cons_append, List.append_assoc, Int.not_lt, Int.not_le, Decidable.not_not, Int.zero_add, Int.reduceLE, Int.reduceLT, Int.reduceEq, Int.reduceNe, Int.reduceAdd, Int.reduceSub, Int.reduceMul, Int.reduceNeg, Int.reduceToNat, Nat.reduceMul, Nat.reduceLT, Nat.reduceEqDiff, and_self, ite_true, ite_false, zx1, zx2, zRecv, List.length_cons, List.length_nil, ne_eq, not_true_eq_false, not_false_eq_true, true_or, or_true, or_false, false_or, and_false, false_and, zf01, zf10, reduceCtorEq, zSw_c, zSw_n, zm_r, zit_T, zit_F, false_implies, true_implies]
    rw [if_pos hpl, if_neg hL, if_neg hD]
  · (repeat (first | rw [zit_f (by omega)] | rw [zit_t (by omega)]))
theorem q_Re_next {d : Nat} (hd : 4 ≤ d) {μ : zMem} {B : Int → Int} {n t : Nat} (hB : okB B n) (h : RD B n t μ) : zSp d 0 0 y_Re_next zT0 [vr 321] μ zT0 (fun r μ' => r = none ∧ RD B n (t + 1) μ' ∧ (∀ j : Int, j ≤ 6 → μ' 321 j = μ 321 j) ∧ zfc [321] μ μ') := by
  obtain ⟨⟨h1, h2⟩, h3, h4, h5⟩ := h
  have hp := ps_le (B := B) (n := n) t
  have hti := tE_in (B := B) (n := n) (k := ps B n t)
  refine (q_Re_next0 hd hB h1 h2 h4 (by split <;> omega)).imp (fun r μ' e => ⟨e.1, ?_, e.2.2⟩)
  unfold RD
  rw [ps]
  have e2 := e.2.1
  by_cases c : ps B n t < n
  · rw [if_pos c] at e2 ⊢
    exact e2
  · rw [if_neg c] at e2 ⊢
    rwa [onE_f (by omega)] at e2

