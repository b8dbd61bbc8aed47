/-! plans, the reference: all rows -/
def FdM (μ μ' : zMem) (pl : Nat) (R : Option (List Nat)) : Prop := (¬ μ 355 37 = 0 → ∀ i : Int, 0 ≤ i → i < 8 → μ' 377 i = μ 377 i) ∧ (μ 355 37 = 0 → ∀ l, R = some l → (∀ i : Nat, i < pl → μ' 377 i = μ 376 i) ∧ ∀ i : Nat, i < l.length → μ' 377 ((pl + i : Nat) : Int) = ((l.getD i 0 : Nat) : Int))
/-- what the reference's plan writes -/
def MPl (μ μ' : zMem) : Prop := (∀ j : Int, j ≠ 20 → j ≠ 21 → j ≠ 22 → j ≠ 23 → j ≠ 37 → μ' 355 j = μ 355 j) ∧ (∀ i : Int, 73 ≤ i → μ' 357 i = μ 357 i) ∧ zfc [355, 357, 360, 367, 376, 377] μ μ'
theorem MPl.rf {μ : zMem} : MPl μ μ := ⟨fun _ _ _ _ _ _ => rfl, fun _ _ => rfl, zfc.rf⟩
theorem MPl.tr {a b c : zMem} (h1 : MPl a b) (h2 : MPl b c) : MPl a c := ⟨fun j p q r s t => (h2.1 j p q r s t).trans (h1.1 j p q r s t), fun i hi => (h2.2.1 i hi).trans (h1.2.1 i hi), (h1.2.2.tr h2.2.2).mo (by simp)⟩
theorem MF.pl {a b : zMem} (h : MF a b) : MPl a b := ⟨fun j p q r s _ => h.1 j p q r s, fun i _ => by rw [h.2 357 (by decide)], h.2.mo (by simp)⟩
theorem VMx.x {b a mx : Int} {μ μ' : zMem} {V : List D4} (h : VMx b a mx μ V) (hb : 73 ≤ b ∧ 73 ≤ a) (h1 : ∀ i : Int, 73 ≤ i → μ' 357 i = μ 357 i) : VMx b a mx μ' V := by
  obtain ⟨p, q, r⟩ := h
  refine ⟨by rw [h1 a hb.2]; exact p, ?_, r⟩
  rw [← q]
  unfold fcM
  rw [h1 a hb.2]
  exact tL_congr (fun i i0 _ => by rw [h1 _ (by omega), h1 _ (by omega), h1 _ (by omega), h1 _ (by omega)])
section ZPM
variable {Z : Zt} {F : Option (List Cls)} {A : Lg} {w : Int → Int} {V : List D4}
def RbM (Z : Zt) (F : Option (List Cls)) (w : Int → Int) (B : Lg) (pl : Nat) (μ : zMem) (R : Int × Option (List Nat)) (μ' : zMem) : Prop := MTx μ' Z F B w ∧ μ' 355 37 = μ 355 37 + R.1 ∧ FdM μ μ' pl R.2 ∧ (∀ i : Nat, i < pl → μ' 376 i = μ 376 i) ∧ (∀ y : Int, 0 ≤ y → y < 73 * (pl : Int) → μ' 360 y = μ 360 y) ∧ MPl μ μ'
theorem fl_M_418 : zFl "DebtDoorsModel" 418 12 37 := ⟨_, rfl, by decide, (zTb_in 1375 (by decide +kernel) (by decide +kernel)), rfl⟩
theorem nk_12_37 : zNk 12 37 = some 0 := rfl
theorem nk_12_36 : zNk 12 36 = none := rfl
theorem nk_12_35 : zNk 12 35 = none := rfl
theorem fp_12_37 : zFp 12 37 0 := ⟨_, rfl, rfl, rfl, by decide⟩
def y_M_triesVisits : zMt := (⟨"DebtDoorsModel", "triesVisits", "(II)V"⟩, prog_14_method_112_code, 7, none)
theorem m_M_triesVisits : Cond.instanceMethod y_M_triesVisits.1 ∈ zTb ∧ Cond.selects y_M_triesVisits.1.cls y_M_triesVisits.1 y_M_triesVisits.1 ∈ zTb ∧ Cond.initialized y_M_triesVisits.1.cls ∈ zTb ∧ Cond.code y_M_triesVisits.1 y_M_triesVisits.2.1 y_M_triesVisits.2.2.1 y_M_triesVisits.2.2.2 ∈ zTb ∧ (y_M_triesVisits.1.cls ≠ "java/lang/invoke/MethodHandle" ∧ y_M_triesVisits.1.cls ≠ "java/lang/invoke/VarHandle" ∧ (parseMethodDescriptor y_M_triesVisits.1.desc).map (fun d => d.parameters.length) = some 2) ∧ y_M_triesVisits.2.2.1 ≤ 20 :=
  ⟨(zTb_in 1951 (by decide +kernel) (by decide +kernel)), (List.mem_filter.mpr ⟨List.mem_append_left _ (by decide +kernel), by decide +kernel⟩), (zTb_in 152 (by decide +kernel) (by decide +kernel)), (zTb_in 1952 (by decide +kernel) (by decide +kernel)), by decide +kernel, by decide +kernel⟩
theorem lv_M_424 : zLv "DebtDoorsModel" 424 y_M_triesVisits 2 12 := ⟨⟨(zTb_in 1949 (by decide +kernel) (by decide +kernel)), m_M_triesVisits.1, m_M_triesVisits.2.1, m_M_triesVisits.2.2⟩, _, rfl, rfl⟩
theorem d_M_triesVisits_0 : decode prog_14_method_112_code 0 = .ok (.aload_n 0, 1) := by decide +kernel
theorem d_M_triesVisits_1 : decode prog_14_method_112_code 1 = .ok (.getfield 24, 3) := by decide +kernel
theorem d_M_triesVisits_4 : decode prog_14_method_112_code 4 = .ok (.sipush 153, 3) := by decide +kernel
theorem d_M_triesVisits_7 : decode prog_14_method_112_code 7 = .ok (.iaload, 1) := by decide +kernel
theorem d_M_triesVisits_8 : decode prog_14_method_112_code 8 = .ok (.istore_n 3, 1) := by decide +kernel
theorem d_M_triesVisits_9 : decode prog_14_method_112_code 9 = .ok (.iload_n 1, 1) := by decide +kernel
theorem d_M_triesVisits_10 : decode prog_14_method_112_code 10 = .ok (.iload_n 3, 1) := by decide +kernel
theorem d_M_triesVisits_11 : decode prog_14_method_112_code 11 = .ok (.if_icmp .ne 50, 3) := by decide +kernel
theorem d_M_triesVisits_14 : decode prog_14_method_112_code 14 = .ok (.iconst 0, 1) := by decide +kernel
theorem d_M_triesVisits_15 : decode prog_14_method_112_code 15 = .ok (.istore 4, 2) := by decide +kernel
theorem d_M_triesVisits_17 : decode prog_14_method_112_code 17 = .ok (.iload 4, 2) := by decide +kernel
theorem d_M_triesVisits_19 : decode prog_14_method_112_code 19 = .ok (.iload_n 3, 1) := by decide +kernel
theorem d_M_triesVisits_20 : decode prog_14_method_112_code 20 = .ok (.if_icmp .ge 30, 3) := by decide +kernel
theorem d_M_triesVisits_23 : decode prog_14_method_112_code 23 = .ok (.aload_n 0, 1) := by decide +kernel
theorem d_M_triesVisits_24 : decode prog_14_method_112_code 24 = .ok (.getfield 418, 3) := by decide +kernel
theorem d_M_triesVisits_27 : decode prog_14_method_112_code 27 = .ok (.ifCond .ne 23, 3) := by decide +kernel
theorem d_M_triesVisits_30 : decode prog_14_method_112_code 30 = .ok (.aload_n 0, 1) := by decide +kernel
theorem d_M_triesVisits_31 : decode prog_14_method_112_code 31 = .ok (.getfield 89, 3) := by decide +kernel
theorem d_M_triesVisits_34 : decode prog_14_method_112_code 34 = .ok (.iload 4, 2) := by decide +kernel
theorem d_M_triesVisits_36 : decode prog_14_method_112_code 36 = .ok (.aload_n 0, 1) := by decide +kernel
theorem d_M_triesVisits_37 : decode prog_14_method_112_code 37 = .ok (.getfield 86, 3) := by decide +kernel
theorem d_M_triesVisits_40 : decode prog_14_method_112_code 40 = .ok (.iload 4, 2) := by decide +kernel
theorem d_M_triesVisits_42 : decode prog_14_method_112_code 42 = .ok (.iaload, 1) := by decide +kernel
theorem d_M_triesVisits_43 : decode prog_14_method_112_code 43 = .ok (.iastore, 1) := by decide +kernel
theorem d_M_triesVisits_44 : decode prog_14_method_112_code 44 = .ok (.iinc 4 1, 3) := by decide +kernel
theorem d_M_triesVisits_47 : decode prog_14_method_112_code 47 = .ok (.goto (-30), 3) := by decide +kernel
theorem d_M_triesVisits_50 : decode prog_14_method_112_code 50 = .ok (.aload_n 0, 1) := by decide +kernel
theorem d_M_triesVisits_51 : decode prog_14_method_112_code 51 = .ok (.dup, 1) := by decide +kernel
theorem d_M_triesVisits_52 : decode prog_14_method_112_code 52 = .ok (.getfield 418, 3) := by decide +kernel
theorem d_M_triesVisits_55 : decode prog_14_method_112_code 55 = .ok (.iconst 1, 1) := by decide +kernel
theorem d_M_triesVisits_56 : decode prog_14_method_112_code 56 = .ok (.iadd, 1) := by decide +kernel
theorem d_M_triesVisits_57 : decode prog_14_method_112_code 57 = .ok (.putfield 418, 3) := by decide +kernel
theorem d_M_triesVisits_60 : decode prog_14_method_112_code 60 = .ok (.return_, 1) := by decide +kernel
theorem d_M_triesVisits_61 : decode prog_14_method_112_code 61 = .ok (.aload_n 0, 1) := by decide +kernel
theorem d_M_triesVisits_62 : decode prog_14_method_112_code 62 = .ok (.iload_n 1, 1) := by decide +kernel
theorem d_M_triesVisits_63 : decode prog_14_method_112_code 63 = .ok (.invokevirtual 421, 3) := by decide +kernel
theorem d_M_triesVisits_66 : decode prog_14_method_112_code 66 = .ok (.iconst 0, 1) := by decide +kernel
theorem d_M_triesVisits_67 : decode prog_14_method_112_code 67 = .ok (.istore 4, 2) := by decide +kernel
theorem d_M_triesVisits_69 : decode prog_14_method_112_code 69 = .ok (.iload 4, 2) := by decide +kernel
theorem d_M_triesVisits_71 : decode prog_14_method_112_code 71 = .ok (.iload_n 3, 1) := by decide +kernel
theorem d_M_triesVisits_72 : decode prog_14_method_112_code 72 = .ok (.if_icmp .ge 146, 3) := by decide +kernel
theorem d_M_triesVisits_75 : decode prog_14_method_112_code 75 = .ok (.bipush 87, 2) := by decide +kernel
theorem d_M_triesVisits_77 : decode prog_14_method_112_code 77 = .ok (.iconst 4, 1) := by decide +kernel
theorem d_M_triesVisits_78 : decode prog_14_method_112_code 78 = .ok (.iload 4, 2) := by decide +kernel
theorem d_M_triesVisits_80 : decode prog_14_method_112_code 80 = .ok (.imul, 1) := by decide +kernel
theorem d_M_triesVisits_81 : decode prog_14_method_112_code 81 = .ok (.iadd, 1) := by decide +kernel
theorem d_M_triesVisits_82 : decode prog_14_method_112_code 82 = .ok (.istore 5, 2) := by decide +kernel
theorem d_M_triesVisits_84 : decode prog_14_method_112_code 84 = .ok (.iload_n 2, 1) := by decide +kernel
theorem d_M_triesVisits_85 : decode prog_14_method_112_code 85 = .ok (.iload 4, 2) := by decide +kernel
theorem d_M_triesVisits_87 : decode prog_14_method_112_code 87 = .ok (.invokestatic 406, 3) := by decide +kernel
theorem d_M_triesVisits_90 : decode prog_14_method_112_code 90 = .ok (.ifCond .ne 122, 3) := by decide +kernel
theorem d_M_triesVisits_93 : decode prog_14_method_112_code 93 = .ok (.aload_n 0, 1) := by decide +kernel
theorem d_M_triesVisits_94 : decode prog_14_method_112_code 94 = .ok (.aload_n 0, 1) := by decide +kernel
theorem d_M_triesVisits_95 : decode prog_14_method_112_code 95 = .ok (.getfield 24, 3) := by decide +kernel
theorem d_M_triesVisits_98 : decode prog_14_method_112_code 98 = .ok (.iload 5, 2) := by decide +kernel
theorem d_M_triesVisits_100 : decode prog_14_method_112_code 100 = .ok (.iconst 1, 1) := by decide +kernel
theorem d_M_triesVisits_101 : decode prog_14_method_112_code 101 = .ok (.iadd, 1) := by decide +kernel
theorem d_M_triesVisits_102 : decode prog_14_method_112_code 102 = .ok (.iaload, 1) := by decide +kernel
theorem d_M_triesVisits_103 : decode prog_14_method_112_code 103 = .ok (.aload_n 0, 1) := by decide +kernel
theorem d_M_triesVisits_104 : decode prog_14_method_112_code 104 = .ok (.getfield 24, 3) := by decide +kernel
theorem d_M_triesVisits_107 : decode prog_14_method_112_code 107 = .ok (.iload 5, 2) := by decide +kernel
theorem d_M_triesVisits_109 : decode prog_14_method_112_code 109 = .ok (.iaload, 1) := by decide +kernel
theorem d_M_triesVisits_110 : decode prog_14_method_112_code 110 = .ok (.invokevirtual 348, 3) := by decide +kernel
theorem d_M_triesVisits_113 : decode prog_14_method_112_code 113 = .ok (.aload_n 0, 1) := by decide +kernel
theorem d_M_triesVisits_114 : decode prog_14_method_112_code 114 = .ok (.getfield 24, 3) := by decide +kernel
theorem d_M_triesVisits_117 : decode prog_14_method_112_code 117 = .ok (.iload 5, 2) := by decide +kernel
theorem d_M_triesVisits_119 : decode prog_14_method_112_code 119 = .ok (.iconst 2, 1) := by decide +kernel
theorem d_M_triesVisits_120 : decode prog_14_method_112_code 120 = .ok (.iadd, 1) := by decide +kernel
theorem d_M_triesVisits_121 : decode prog_14_method_112_code 121 = .ok (.iaload, 1) := by decide +kernel
theorem d_M_triesVisits_122 : decode prog_14_method_112_code 122 = .ok (.if_icmp .ge 6, 3) := by decide +kernel
theorem d_M_triesVisits_125 : decode prog_14_method_112_code 125 = .ok (.goto 87, 3) := by decide +kernel
theorem d_M_triesVisits_128 : decode prog_14_method_112_code 128 = .ok (.aload_n 0, 1) := by decide +kernel
theorem d_M_triesVisits_129 : decode prog_14_method_112_code 129 = .ok (.aload_n 0, 1) := by decide +kernel
theorem d_M_triesVisits_130 : decode prog_14_method_112_code 130 = .ok (.getfield 24, 3) := by decide +kernel
theorem d_M_triesVisits_133 : decode prog_14_method_112_code 133 = .ok (.iload 5, 2) := by decide +kernel
theorem d_M_triesVisits_135 : decode prog_14_method_112_code 135 = .ok (.iconst 1, 1) := by decide +kernel
theorem d_M_triesVisits_136 : decode prog_14_method_112_code 136 = .ok (.iadd, 1) := by decide +kernel
theorem d_M_triesVisits_137 : decode prog_14_method_112_code 137 = .ok (.iaload, 1) := by decide +kernel
theorem d_M_triesVisits_138 : decode prog_14_method_112_code 138 = .ok (.aload_n 0, 1) := by decide +kernel
theorem d_M_triesVisits_139 : decode prog_14_method_112_code 139 = .ok (.getfield 24, 3) := by decide +kernel
theorem d_M_triesVisits_142 : decode prog_14_method_112_code 142 = .ok (.iload 5, 2) := by decide +kernel
theorem d_M_triesVisits_144 : decode prog_14_method_112_code 144 = .ok (.iaload, 1) := by decide +kernel
theorem d_M_triesVisits_145 : decode prog_14_method_112_code 145 = .ok (.aload_n 0, 1) := by decide +kernel
theorem d_M_triesVisits_146 : decode prog_14_method_112_code 146 = .ok (.getfield 24, 3) := by decide +kernel
theorem d_M_triesVisits_149 : decode prog_14_method_112_code 149 = .ok (.iload 5, 2) := by decide +kernel
theorem d_M_triesVisits_151 : decode prog_14_method_112_code 151 = .ok (.iconst 3, 1) := by decide +kernel
theorem d_M_triesVisits_152 : decode prog_14_method_112_code 152 = .ok (.iadd, 1) := by decide +kernel
theorem d_M_triesVisits_153 : decode prog_14_method_112_code 153 = .ok (.iaload, 1) := by decide +kernel
theorem d_M_triesVisits_154 : decode prog_14_method_112_code 154 = .ok (.invokevirtual 369, 3) := by decide +kernel
theorem d_M_triesVisits_157 : decode prog_14_method_112_code 157 = .ok (.istore 6, 2) := by decide +kernel
theorem d_M_triesVisits_159 : decode prog_14_method_112_code 159 = .ok (.iload 6, 2) := by decide +kernel
theorem d_M_triesVisits_161 : decode prog_14_method_112_code 161 = .ok (.ifCond .le 25, 3) := by decide +kernel
theorem d_M_triesVisits_164 : decode prog_14_method_112_code 164 = .ok (.aload_n 0, 1) := by decide +kernel
theorem d_M_triesVisits_165 : decode prog_14_method_112_code 165 = .ok (.aload_n 0, 1) := by decide +kernel
theorem d_M_triesVisits_166 : decode prog_14_method_112_code 166 = .ok (.getfield 24, 3) := by decide +kernel
theorem d_M_triesVisits_169 : decode prog_14_method_112_code 169 = .ok (.iload 5, 2) := by decide +kernel
theorem d_M_triesVisits_171 : decode prog_14_method_112_code 171 = .ok (.iconst 1, 1) := by decide +kernel
theorem d_M_triesVisits_172 : decode prog_14_method_112_code 172 = .ok (.iadd, 1) := by decide +kernel
theorem d_M_triesVisits_173 : decode prog_14_method_112_code 173 = .ok (.iaload, 1) := by decide +kernel
theorem d_M_triesVisits_174 : decode prog_14_method_112_code 174 = .ok (.aload_n 0, 1) := by decide +kernel
theorem d_M_triesVisits_175 : decode prog_14_method_112_code 175 = .ok (.getfield 24, 3) := by decide +kernel
theorem d_M_triesVisits_178 : decode prog_14_method_112_code 178 = .ok (.iload 5, 2) := by decide +kernel
theorem d_M_triesVisits_180 : decode prog_14_method_112_code 180 = .ok (.iaload, 1) := by decide +kernel
theorem d_M_triesVisits_181 : decode prog_14_method_112_code 181 = .ok (.iload 6, 2) := by decide +kernel
theorem d_M_triesVisits_183 : decode prog_14_method_112_code 183 = .ok (.invokevirtual 372, 3) := by decide +kernel
theorem d_M_triesVisits_186 : decode prog_14_method_112_code 186 = .ok (.aload_n 0, 1) := by decide +kernel
theorem d_M_triesVisits_187 : decode prog_14_method_112_code 187 = .ok (.getfield 86, 3) := by decide +kernel
theorem d_M_triesVisits_190 : decode prog_14_method_112_code 190 = .ok (.iload_n 1, 1) := by decide +kernel
theorem d_M_triesVisits_191 : decode prog_14_method_112_code 191 = .ok (.iload 4, 2) := by decide +kernel
theorem d_M_triesVisits_193 : decode prog_14_method_112_code 193 = .ok (.iastore, 1) := by decide +kernel
theorem d_M_triesVisits_194 : decode prog_14_method_112_code 194 = .ok (.aload_n 0, 1) := by decide +kernel
theorem d_M_triesVisits_195 : decode prog_14_method_112_code 195 = .ok (.iload_n 1, 1) := by decide +kernel
theorem d_M_triesVisits_196 : decode prog_14_method_112_code 196 = .ok (.iconst 1, 1) := by decide +kernel
theorem d_M_triesVisits_197 : decode prog_14_method_112_code 197 = .ok (.iadd, 1) := by decide +kernel
theorem d_M_triesVisits_198 : decode prog_14_method_112_code 198 = .ok (.iload_n 2, 1) := by decide +kernel
theorem d_M_triesVisits_199 : decode prog_14_method_112_code 199 = .ok (.iconst 1, 1) := by decide +kernel
theorem d_M_triesVisits_200 : decode prog_14_method_112_code 200 = .ok (.iload 4, 2) := by decide +kernel
theorem d_M_triesVisits_202 : decode prog_14_method_112_code 202 = .ok (.ishl, 1) := by decide +kernel
theorem d_M_triesVisits_203 : decode prog_14_method_112_code 203 = .ok (.ior, 1) := by decide +kernel
theorem d_M_triesVisits_204 : decode prog_14_method_112_code 204 = .ok (.invokevirtual 424, 3) := by decide +kernel
theorem d_M_triesVisits_207 : decode prog_14_method_112_code 207 = .ok (.aload_n 0, 1) := by decide +kernel
theorem d_M_triesVisits_208 : decode prog_14_method_112_code 208 = .ok (.iload_n 1, 1) := by decide +kernel
theorem d_M_triesVisits_209 : decode prog_14_method_112_code 209 = .ok (.invokevirtual 427, 3) := by decide +kernel
theorem d_M_triesVisits_212 : decode prog_14_method_112_code 212 = .ok (.iinc 4 1, 3) := by decide +kernel
theorem d_M_triesVisits_215 : decode prog_14_method_112_code 215 = .ok (.goto (-146), 3) := by decide +kernel
theorem d_M_triesVisits_218 : decode prog_14_method_112_code 218 = .ok (.return_, 1) := by decide +kernel
def w_M_triesVisits {d : Nat} (hd : 4 ≤ d) := (show SS ("DebtDoorsModel", prog_14_method_112_code, 7) (none) d 0 0 0 0 _ from (sS (p1 := 9) (sIn 3 (xE (rIa (rFr fl_M_24 nk_12_2 (rAn 0 d_M_triesVisits_0 rfl) d_M_triesVisits_1) (rSi d_M_triesVisits_4 rfl) d_M_triesVisits_7)) d_M_triesVisits_8 rfl (by decide)) (sS (p1 := 61) (sIf (pn := 61) (tt := 14) (xC (rNot (rJ2 (tgt := 61) j_ne (rIn 1 d_M_triesVisits_9 rfl) (rIn 3 d_M_triesVisits_10 rfl) d_M_triesVisits_11 (by decide)))) (sS (p1 := 50) (sS (p1 := 17) (sI (xE (rI d_M_triesVisits_14 rfl)) d_M_triesVisits_15 (by decide)) (sLp (ps := 44) (tt := 30) (pn := 50) (p1 := 0) (p2 := 0) (xC (rAnd (mm := 23) (rNot (rJ2 (tgt := 50) j_ge (rIl d_M_triesVisits_17) (rIn 3 d_M_triesVisits_19 rfl) d_M_triesVisits_20 (by decide))) (rNot (rJ1 (tgt := 50) k_ne (rF 37 fl_M_418 nk_12_37 (rAn 0 d_M_triesVisits_23 rfl) d_M_triesVisits_24 rfl) d_M_triesVisits_27 (by decide))))) (sAs (rFr fl_M_89 nk_12_36 (rAn 0 d_M_triesVisits_30 rfl) d_M_triesVisits_31) (rIl d_M_triesVisits_34) (xE (rIa (rFr fl_M_86 nk_12_35 (rAn 0 d_M_triesVisits_36 rfl) d_M_triesVisits_37) (rIl d_M_triesVisits_40) d_M_triesVisits_42)) d_M_triesVisits_43) (sGo (pn := 17) (sInc d_M_triesVisits_44 (by decide)) d_M_triesVisits_47 (by decide)))) (sS (p1 := 60) (sPo 37 o_add fl_M_418 fp_12_37 nk_12_37 (rAn 0 d_M_triesVisits_50 rfl) d_M_triesVisits_51 d_M_triesVisits_52 (rI d_M_triesVisits_55 rfl) d_M_triesVisits_56 d_M_triesVisits_57 rfl) (sRv d_M_triesVisits_60 rfl)))) (sS (p1 := 66) (sV (xVv lv_M_421 (xA (rAi (rAr rA0 (rAn 0 d_M_triesVisits_61 rfl)) (rIn 1 d_M_triesVisits_62 rfl))) (by decide) d_M_triesVisits_63)) (sS (p1 := 218) (sS (p1 := 69) (sI (xE (rI d_M_triesVisits_66 rfl)) d_M_triesVisits_67 (by decide)) (sLp (ps := 212) (tt := 75) (pn := 218) (p1 := 0) (p2 := 0) (xC (rNot (rJ2 (tgt := 218) j_ge (rIl d_M_triesVisits_69) (rIn 3 d_M_triesVisits_71 rfl) d_M_triesVisits_72 (by decide)))) (sS (p1 := 84) (sI (xE (r2 o_add (rB d_M_triesVisits_75 rfl) (r2 o_mul (rI d_M_triesVisits_77 rfl) (rIl d_M_triesVisits_78) d_M_triesVisits_80) d_M_triesVisits_81)) d_M_triesVisits_82 (by decide)) (sS (p1 := 128) (sIf (pn := 128) (tt := 212) (xOr (mm := 93) (xC (rJ1 (tgt := 212) k_ne (rS p_M_isIn (Nat.le_trans (Nat.le_of_ble_eq_true rfl) hd) ls_M_406 (rAi (rAi rA0 (rIn 2 d_M_triesVisits_84 rfl)) (rIl d_M_triesVisits_85)) (by decide) d_M_triesVisits_87) d_M_triesVisits_90 (by decide))) (xGt (p2 := 212) (xNot (xJ2 (tgt := 128) j_ge (xV lv_M_348 (xA (rAi (rAi (rAr rA0 (rAn 0 d_M_triesVisits_93 rfl)) (rIa (rFr fl_M_24 nk_12_2 (rAn 0 d_M_triesVisits_94 rfl) d_M_triesVisits_95) (r2 o_add (rIl d_M_triesVisits_98) (rI d_M_triesVisits_100 rfl) d_M_triesVisits_101) d_M_triesVisits_102)) (rIa (rFr fl_M_24 nk_12_2 (rAn 0 d_M_triesVisits_103 rfl) d_M_triesVisits_104) (rIl d_M_triesVisits_107) d_M_triesVisits_109))) (by decide) d_M_triesVisits_110) (xE (rIa (rFr fl_M_24 nk_12_2 (rAn 0 d_M_triesVisits_113 rfl) d_M_triesVisits_114) (r2 o_add (rIl d_M_triesVisits_117) (rI d_M_triesVisits_119 rfl) d_M_triesVisits_120) d_M_triesVisits_121)) d_M_triesVisits_122 (by decide))) d_M_triesVisits_125 (by decide))) sCo0) (sS (p1 := 159) (sI (xE (rV p_M_canRepay (Nat.le_trans (Nat.le_of_ble_eq_true rfl) hd) lv_M_369 (rAi (rAi (rAi (rAr rA0 (rAn 0 d_M_triesVisits_128 rfl)) (rIa (rFr fl_M_24 nk_12_2 (rAn 0 d_M_triesVisits_129 rfl) d_M_triesVisits_130) (r2 o_add (rIl d_M_triesVisits_133) (rI d_M_triesVisits_135 rfl) d_M_triesVisits_136) d_M_triesVisits_137)) (rIa (rFr fl_M_24 nk_12_2 (rAn 0 d_M_triesVisits_138 rfl) d_M_triesVisits_139) (rIl d_M_triesVisits_142) d_M_triesVisits_144)) (rIa (rFr fl_M_24 nk_12_2 (rAn 0 d_M_triesVisits_145 rfl) d_M_triesVisits_146) (r2 o_add (rIl d_M_triesVisits_149) (rI d_M_triesVisits_151 rfl) d_M_triesVisits_152) d_M_triesVisits_153)) (by decide) d_M_triesVisits_154)) d_M_triesVisits_157 (by decide)) (sS (p1 := 186) (sIf (pn := 186) (tt := 164) (xC (rNot (rJ1 (tgt := 186) k_le (rIl d_M_triesVisits_159) d_M_triesVisits_161 (by decide)))) (sV (xVv lv_M_372 (xA (rAi (rAi (rAi (rAr rA0 (rAn 0 d_M_triesVisits_164 rfl)) (rIa (rFr fl_M_24 nk_12_2 (rAn 0 d_M_triesVisits_165 rfl) d_M_triesVisits_166) (r2 o_add (rIl d_M_triesVisits_169) (rI d_M_triesVisits_171 rfl) d_M_triesVisits_172) d_M_triesVisits_173)) (rIa (rFr fl_M_24 nk_12_2 (rAn 0 d_M_triesVisits_174 rfl) d_M_triesVisits_175) (rIl d_M_triesVisits_178) d_M_triesVisits_180)) (rIl d_M_triesVisits_181))) (by decide) d_M_triesVisits_183))) (sS (p1 := 194) (sAs (rFr fl_M_86 nk_12_35 (rAn 0 d_M_triesVisits_186 rfl) d_M_triesVisits_187) (rIn 1 d_M_triesVisits_190 rfl) (xE (rIl d_M_triesVisits_191)) d_M_triesVisits_193) (sS (p1 := 207) (sV (xVv lv_M_424 (xA (rAi (rAi (rAr rA0 (rAn 0 d_M_triesVisits_194 rfl)) (r2 o_add (rIn 1 d_M_triesVisits_195 rfl) (rI d_M_triesVisits_196 rfl) d_M_triesVisits_197)) (r2 o_or (rIn 2 d_M_triesVisits_198 rfl) (r2 o_shl (rI d_M_triesVisits_199 rfl) (rIl d_M_triesVisits_200) d_M_triesVisits_202) d_M_triesVisits_203))) (by decide) d_M_triesVisits_204)) (sV (xVv lv_M_427 (xA (rAi (rAr rA0 (rAn 0 d_M_triesVisits_207 rfl)) (rIn 1 d_M_triesVisits_208 rfl))) (by decide) d_M_triesVisits_209)))))))) (sGo (pn := 69) (sInc d_M_triesVisits_212 (by decide)) d_M_triesVisits_215 (by decide)))) (sRv d_M_triesVisits_218 rfl))))))
def y_M_plan : zMt := (⟨"DebtDoorsModel", "plan", "(I)I"⟩, prog_14_method_113_code, 2, some .int)
theorem d_M_plan_0 : decode prog_14_method_113_code 0 = .ok (.iload_n 1, 1) := by decide +kernel
theorem d_M_plan_1 : decode prog_14_method_113_code 1 = .ok (.iconst (-1), 1) := by decide +kernel
theorem d_M_plan_2 : decode prog_14_method_113_code 2 = .ok (.aload_n 0, 1) := by decide +kernel
theorem d_M_plan_3 : decode prog_14_method_113_code 3 = .ok (.getfield 24, 3) := by decide +kernel
theorem d_M_plan_6 : decode prog_14_method_113_code 6 = .ok (.sipush 153, 3) := by decide +kernel
theorem d_M_plan_9 : decode prog_14_method_113_code 9 = .ok (.iaload, 1) := by decide +kernel
theorem d_M_plan_10 : decode prog_14_method_113_code 10 = .ok (.iconst 1, 1) := by decide +kernel
theorem d_M_plan_11 : decode prog_14_method_113_code 11 = .ok (.isub, 1) := by decide +kernel
theorem d_M_plan_12 : decode prog_14_method_113_code 12 = .ok (.invokestatic 123, 3) := by decide +kernel
theorem d_M_plan_15 : decode prog_14_method_113_code 15 = .ok (.ifCond .ne 5, 3) := by decide +kernel
theorem d_M_plan_18 : decode prog_14_method_113_code 18 = .ok (.iconst (-1), 1) := by decide +kernel
theorem d_M_plan_19 : decode prog_14_method_113_code 19 = .ok (.ireturn, 1) := by decide +kernel
theorem d_M_plan_20 : decode prog_14_method_113_code 20 = .ok (.aload_n 0, 1) := by decide +kernel
theorem d_M_plan_21 : decode prog_14_method_113_code 21 = .ok (.iconst 0, 1) := by decide +kernel
theorem d_M_plan_22 : decode prog_14_method_113_code 22 = .ok (.putfield 418, 3) := by decide +kernel
theorem d_M_plan_25 : decode prog_14_method_113_code 25 = .ok (.aload_n 0, 1) := by decide +kernel
theorem d_M_plan_26 : decode prog_14_method_113_code 26 = .ok (.iconst 0, 1) := by decide +kernel
theorem d_M_plan_27 : decode prog_14_method_113_code 27 = .ok (.iconst 0, 1) := by decide +kernel
theorem d_M_plan_28 : decode prog_14_method_113_code 28 = .ok (.invokevirtual 424, 3) := by decide +kernel
theorem d_M_plan_31 : decode prog_14_method_113_code 31 = .ok (.iload_n 1, 1) := by decide +kernel
theorem d_M_plan_32 : decode prog_14_method_113_code 32 = .ok (.iconst (-1), 1) := by decide +kernel
theorem d_M_plan_33 : decode prog_14_method_113_code 33 = .ok (.if_icmp .ne 10, 3) := by decide +kernel
theorem d_M_plan_36 : decode prog_14_method_113_code 36 = .ok (.aload_n 0, 1) := by decide +kernel
theorem d_M_plan_37 : decode prog_14_method_113_code 37 = .ok (.getfield 418, 3) := by decide +kernel
theorem d_M_plan_40 : decode prog_14_method_113_code 40 = .ok (.goto 20, 3) := by decide +kernel
theorem d_M_plan_43 : decode prog_14_method_113_code 43 = .ok (.aload_n 0, 1) := by decide +kernel
theorem d_M_plan_44 : decode prog_14_method_113_code 44 = .ok (.getfield 418, 3) := by decide +kernel
theorem d_M_plan_47 : decode prog_14_method_113_code 47 = .ok (.ifCond .ne 7, 3) := by decide +kernel
theorem d_M_plan_50 : decode prog_14_method_113_code 50 = .ok (.iconst (-1), 1) := by decide +kernel
theorem d_M_plan_51 : decode prog_14_method_113_code 51 = .ok (.goto 9, 3) := by decide +kernel
theorem d_M_plan_54 : decode prog_14_method_113_code 54 = .ok (.aload_n 0, 1) := by decide +kernel
theorem d_M_plan_55 : decode prog_14_method_113_code 55 = .ok (.getfield 89, 3) := by decide +kernel
theorem d_M_plan_58 : decode prog_14_method_113_code 58 = .ok (.iload_n 1, 1) := by decide +kernel
theorem d_M_plan_59 : decode prog_14_method_113_code 59 = .ok (.iaload, 1) := by decide +kernel
theorem d_M_plan_60 : decode prog_14_method_113_code 60 = .ok (.ireturn, 1) := by decide +kernel
def w_M_plan {d : Nat} (hd : 2 ≤ d) := (show SS ("DebtDoorsModel", prog_14_method_113_code, 2) (some .int) d 0 0 0 0 _ from (sS (p1 := 20) (sIf (pn := 20) (tt := 18) (xC (rNot (rJ1 (tgt := 20) k_ne (rS p_M_lies (Nat.le_trans (Nat.le_of_ble_eq_true rfl) hd) ls_M_123 (rAi (rAi (rAi rA0 (rIn 1 d_M_plan_0 rfl)) (rI d_M_plan_1 rfl)) (r2 o_sub (rIa (rFr fl_M_24 nk_12_2 (rAn 0 d_M_plan_2 rfl) d_M_plan_3) (rSi d_M_plan_6 rfl) d_M_plan_9) (rI d_M_plan_10 rfl) d_M_plan_11)) (by decide) d_M_plan_12) d_M_plan_15 (by decide)))) (sRi (xE (rI d_M_plan_18 rfl)) d_M_plan_19 rfl)) (sS (p1 := 25) (sP 37 fl_M_418 fp_12_37 nk_12_37 (rAn 0 d_M_plan_20 rfl) (xE (rI d_M_plan_21 rfl)) d_M_plan_22 rfl) (sS (p1 := 31) (sV (xVv lv_M_424 (xA (rAi (rAi (rAr rA0 (rAn 0 d_M_plan_25 rfl)) (rI d_M_plan_26 rfl)) (rI d_M_plan_27 rfl))) (by decide) d_M_plan_28)) (sRi (xE (rT2 (rNot (rJ2 (tgt := 43) j_ne (rIn 1 d_M_plan_31 rfl) (rI d_M_plan_32 rfl) d_M_plan_33 (by decide))) (rGoE (p2 := 60) (rF 37 fl_M_418 nk_12_37 (rAn 0 d_M_plan_36 rfl) d_M_plan_37 rfl) d_M_plan_40 (by decide)) (rT2 (rNot (rJ1 (tgt := 54) k_ne (rF 37 fl_M_418 nk_12_37 (rAn 0 d_M_plan_43 rfl) d_M_plan_44 rfl) d_M_plan_47 (by decide))) (rGoE (p2 := 60) (rI d_M_plan_50 rfl) d_M_plan_51 (by decide)) (rIa (rFr fl_M_89 nk_12_36 (rAn 0 d_M_plan_54 rfl) d_M_plan_55) (rIn 1 d_M_plan_58 rfl) d_M_plan_59)))) d_M_plan_60 rfl)))))
theorem q_M_triesVisits (hA : okA A) (hn : ∀ x, x ∈ V → x.1 < Z.1 ∧ x.2.1 < Z.1) : ∀ (f : Nat) {d : Nat} (hd : 51 + f ≤ d) {μ : zMem} {P : Int → Int} {B : Lg} {used pl : Nat}, pl + f = V.length → MTx μ Z F B w → VMx 87 153 999 μ V → PlL A V P B → okQ A V P → used < 256 → (∀ i : Nat, i < 8 → ¬ zbit (used : Int) (i : Int) → P i = 0) → (0 ≤ μ 355 37 ∧ μ 355 37 + ((8 ^ f : Nat) : Int) ≤ 1000000000) → zSp d 0 0 y_M_triesVisits zT0 [vr 355, vi pl, vi used] μ zT0 (fun q μ' => q = none ∧ RbM Z F w B pl μ (plN Z F A w V f used P) μ') := by
  intro f
  induction f with
  | zero =>
    intro d hd μ P B used pl hpl hM hV hP hQ hu h0 h37
    have hl := hV.l
    have h8 := hV.1
    refine zSp.ss [vr 355, vi pl, vi used, vx 0, vx 0, vx 0, vx 0] rfl (w_M_triesVisits (by omega)) rfl rfl ?_
    (try simp only [zit_e, Bool.and_eq_true, Bool.or_eq_true, Bool.not_eq_true', Bool.and_eq_false_iff, Bool.or_eq_false_iff, Bool.not_eq_false', zbe, zdt, zdf, zb2_p, zbp_0, zbp_1, zbp_inj, zbp_01, Bool.true_eq_false, Bool.false_eq_true, true_and, and_true, Decidable.not_not, Classical.not_not, implies_true, List.nil_append, List.cons_append, List.append_assoc, Option.some.injEq, Sum.inl.injEq, zSw_c, zSw_n]); (try simp only [zit_e, Bool.and_eq_true, Bool.or_eq_true, Bool.not_eq_true', Bool.and_eq_false_iff, Bool.or_eq_false_iff, Bool.not_eq_false', zbe, zdt, zdf, zb2_p, zbp_0, zbp_1, zbp_inj, zbp_01, Bool.true_eq_false, Bool.false_eq_true, true_and, and_true, Decidable.not_not, Classical.not_not, implies_true, List.nil_append, List.cons_append, List.append_assoc, Option.some.injEq, Sum.inl.injEq, zSw_c, zSw_n, zc_355]); (try simp only [zi_cs, zi_c0, zii_cs, zii_c0, zl_cs, zl_c0, zll_cs, zll_c0, zr_cs, zr_c0, zrr_cs, zrr_c0, zxs_cs, zxs_c0, zxx_cs, zxx_c0, zfree_c0, zfree_c1, zfree_cs, zfree_cz, zlong_i, zlong_r, zlong_x, zset_0, zset_s, true_and, and_true, Option.some.injEq, Sum.inl.injEq, Sum.inr.injEq, zb2_p, zbp_0, zbp_1, zbp_inj, zbp_01, Nat.zero_add, Nat.reduceAdd, implies_true, List.nil_append, List.cons_append, List.append_assoc, Int.not_lt, Int.not_le, Decidable.not_not, Int.zero_add, Int.reduceLE, Int.reduceLT, Int.reduceEq, Int.reduceNe, Int.reduceAdd, Int.reduceSub, Int.reduceMul, Int.reduceNeg, Int.reduceToNat, Nat.reduceMul, Nat.reduceLT, Nat.reduceEqDiff, and_self, ite_true, ite_false, zx1, zx2, zRecv, List.length_cons, List.length_nil, ne_eq, not_true_eq_false, not_false_eq_true, true_or, or_true, or_false, false_or, and_false, false_and, zf01, zf10, reduceCtorEq, zSw_c, zSw_n, zm_r, zit_T, zit_F, false_implies, true_implies, zc_355])
    rw [hl]
    done
  | succ f ih =>
    intro d hd μ P B used pl hpl hM hV hP hQ hu h0 h37
    have hl := hV.l
    have h8 := hV.1
    refine zSp.ss [vr 355, vi pl, vi used, vx 0, vx 0, vx 0, vx 0] rfl (w_M_triesVisits (by omega)) rfl rfl ?_
    (try simp only [zit_e, Bool.and_eq_true, Bool.or_eq_true, Bool.not_eq_true', Bool.and_eq_false_iff, Bool.or_eq_false_iff, Bool.not_eq_false', zbe, zdt, zdf, zb2_p, zbp_0, zbp_1, zbp_inj, zbp_01, Bool.true_eq_false, Bool.false_eq_true, true_and, and_true, Decidable.not_not, Classical.not_not, implies_true, List.nil_append, List.cons_append, List.append_assoc, Option.some.injEq, Sum.inl.injEq, zSw_c, zSw_n]); (try simp only [zit_e, Bool.and_eq_true, Bool.or_eq_true, Bool.not_eq_true', Bool.and_eq_false_iff, Bool.or_eq_false_iff, Bool.not_eq_false', zbe, zdt, zdf, zb2_p, zbp_0, zbp_1, zbp_inj, zbp_01, Bool.true_eq_false, Bool.false_eq_true, true_and, and_true, Decidable.not_not, Classical.not_not, implies_true, List.nil_append, List.cons_append, List.append_assoc, Option.some.injEq, Sum.inl.injEq, zSw_c, zSw_n, zc_355]); (try simp only [zi_cs, zi_c0, zii_cs, zii_c0, zl_cs, zl_c0, zll_cs, zll_c0, zr_cs, zr_c0, zrr_cs, zrr_c0, zxs_cs, zxs_c0, zxx_cs, zxx_c0, zfree_c0, zfree_c1, zfree_cs, zfree_cz, zlong_i, zlong_r, zlong_x, zset_0, zset_s, true_and, and_true, Option.some.injEq, Sum.inl.injEq, Sum.inr.injEq, zb2_p, zbp_0, zbp_1, zbp_inj, zbp_01, Nat.zero_add, Nat.reduceAdd, implies_true, List.nil_append, List.cons_append, List.append_assoc, Int.not_lt, Int.not_le, Decidable.not_not, Int.zero_add, Int.reduceLE, Int.reduceLT, Int.reduceEq, Int.reduceNe, Int.reduceAdd, Int.reduceSub, Int.reduceMul, Int.reduceNeg, Int.reduceToNat, Nat.reduceMul, Nat.reduceLT, Nat.reduceEqDiff, and_self, ite_true, ite_false, zx1, zx2, zRecv, List.length_cons, List.length_nil, ne_eq, not_true_eq_false, not_false_eq_true, true_or, or_true, or_false, false_or, and_false, false_and, zf01, zf10, reduceCtorEq, zSw_c, zSw_n, zm_r, zit_T, zit_F, false_implies, true_implies, zc_355])
    rw [hl]
    refine zif (fun c => by omega) (fun c => ?_)
    done
end ZPM

