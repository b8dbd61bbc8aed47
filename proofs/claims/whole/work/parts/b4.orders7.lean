/-! orders: the reference runs a clause -/
def OrM (Z : Zt) (F : Option (List Cls)) (x : OrS) (μ μ1 : zMem) : Prop := MTx μ1 Z F x.1 x.2.2.2.2 ∧ (0 ≤ μ1 355 28 ∧ μ1 355 28 ≤ 16) ∧ UR x.2.1 (unM μ1) ∧ (μ1 355 48 = x.2.2.1 ∧ μ1 355 49 = x.2.2.2.1) ∧ (∀ i : Int, 73 ≤ i → μ1 357 i = μ 357 i) ∧ (∀ j : Int, ¬ (20 ≤ j ∧ j ≤ 23) → j ≠ 28 → ¬ (48 ≤ j ∧ j ≤ 54) → μ1 355 j = μ 355 j) ∧ zfc [355, 357, 367, 368, 369, 383] μ μ1
theorem MTx.ww {μ : zMem} {Z : Zt} {F : Option (List Cls)} {A : Lg} {w w' : Int → Int} (h : MTx μ Z F A w) (hb : bW w') : MTx μ Z F A w' := ⟨h.1, h.2.1, h.2.2.1, h.2.2.2.1, h.2.2.2.2.1, hb⟩
theorem OrM.g {Z : Zt} {F : Option (List Cls)} {x : OrS} {μ μ1 μ2 : zMem} {W : Int → Int} (h : OrM Z F x μ μ1) (hb : bW W) (h1 : FG μ1 μ2) : OrM Z F (x.1, x.2.1, x.2.2.1, x.2.2.2.1, W) μ μ2 := by
  obtain ⟨a1, a2, a3, a4, a5, a6, a7⟩ := h
  have k7 := h1.1 357 (by decide)
  have k : ∀ j : Int, ¬ (20 ≤ j ∧ j ≤ 23) → ¬ (51 ≤ j ∧ j ≤ 54) → μ2 355 j = μ1 355 j := fun j p q => h1.2 j (by omega) (by omega) (by omega) (by omega) (by omega) (by omega) (by omega) (by omega)
  refine ⟨(a1.k k7).ww hb, by rw [k 28 (by omega) (by omega)]; exact a2, ?_, by rw [k 48 (by omega) (by omega), k 49 (by omega) (by omega)]; exact a4, fun i hi => by rw [k7]; exact a5 i hi, fun j p q r => (k j p (by omega)).trans (a6 j p q r), (a7.tr h1.1).mo (by simp)⟩
  have : unM μ2 = unM μ1 := by
    unfold unM rwM
    rw [k 28 (by omega) (by omega), h1.1 369 (by decide)]
  rw [this]
  exact a3
/-- kept and done -/
theorem OrM.d {Z : Zt} {F : Option (List Cls)} {x : OrS} {μ μ1 μ2 μ3 : zMem} {A' : Lg} {k a b : Int} (h : OrM Z F x μ μ1) (hk : 0 ≤ k ∧ k ≤ 5) (h2 : MTx μ2 Z F A' x.2.2.2.2) (h1 : KpM k μ1 μ2) (h3 : zfc [355] μ2 μ3) (h4 : ∀ j : Int, j ≠ 48 → j ≠ 49 → μ3 355 j = μ2 355 j) (h5 : μ3 355 48 = a ∧ μ3 355 49 = b) : OrM Z F (A', kpD x.2.1 (x.1, k), a, b, x.2.2.2.2) μ μ3 := by
  obtain ⟨a1, a2, a3, a4, a5, a6, a7⟩ := h
  obtain ⟨b1, b2, b3, b4, b5⟩ := h1
  have k7 := h3 357 (by decide)
  refine ⟨h2.k k7, by rw [h4 28 (by decide) (by decide)]; exact b1, ?_, h5, fun i hi => by rw [k7, b3 i hi]; exact a5 i hi, fun j p q r => by rw [h4 j (by omega) (by omega), b4 j (by omega) (by omega) (by omega) (by omega) q]; exact a6 j p q r, ((a7.tr b5).tr h3).mo (by simp)⟩
  have : unM μ3 = unM μ2 := by
    unfold unM rwM
    rw [h4 28 (by decide) (by decide), h3 369 (by decide)]
  rw [this, b2]
  exact a3.kp (a1.rw hk)
theorem orC_B {Z : Zt} {F : Option (List Cls)} {A : Lg} {cl : Cls} {W : Int → Int} (h : ¬ cl.1 = 2) (hB : orB cl W) : orC Z F A cl W = -3 := by
  unfold orC
  rw [zit_f h, zit_t hB]
theorem orC_1 {Z : Zt} {F : Option (List Cls)} {A : Lg} {cl : Cls} {W : Int → Int} (h : cl.1 = 1) (hB : ¬ orB cl W) : orC Z F A cl W = payA Z A (orG cl W 0) (orG cl W 1) (orG cl W 2) ∧ orA Z F A cl W = pdA A (orG cl W 0) (orG cl W 1) (payA Z A (orG cl W 0) (orG cl W 1) (orG cl W 2)) := by
  unfold orC orA
  rw [zit_f (by omega), zit_f hB, zit_t h, if_neg (by omega), if_pos h]
  exact ⟨rfl, rfl⟩
theorem orC_0 {Z : Zt} {F : Option (List Cls)} {A : Lg} {cl : Cls} {W : Int → Int} (h : cl.1 = 0) (hB : ¬ orB cl W) : orC Z F A cl W = lendA Z A (orG cl W 0) (orG cl W 1) (orG cl W 2) ∧ orA Z F A cl W = ldA A (orG cl W 0) (orG cl W 1) (orG cl W 2) := by
  unfold orC orA
  rw [zit_f (by omega), zit_f hB, zit_f (by omega), if_neg (by omega), if_neg (by omega)]
  exact ⟨rfl, rfl⟩
theorem m_M_goesAlong : Cond.instanceMethod y_M_goesAlong.1 ∈ zTb ∧ Cond.selects y_M_goesAlong.1.cls y_M_goesAlong.1 y_M_goesAlong.1 ∈ zTb ∧ Cond.initialized y_M_goesAlong.1.cls ∈ zTb ∧ Cond.code y_M_goesAlong.1 y_M_goesAlong.2.1 y_M_goesAlong.2.2.1 y_M_goesAlong.2.2.2 ∈ zTb ∧ (y_M_goesAlong.1.cls ≠ "java/lang/invoke/MethodHandle" ∧ y_M_goesAlong.1.cls ≠ "java/lang/invoke/VarHandle" ∧ (parseMethodDescriptor y_M_goesAlong.1.desc).map (fun d => d.parameters.length) = some 2) ∧ y_M_goesAlong.2.2.1 ≤ 20 :=
  ⟨(zTb_in 2052 (by decide +kernel) (by decide +kernel)), (List.mem_filter.mpr ⟨List.mem_append_left _ (by decide +kernel), by decide +kernel⟩), (zTb_in 151 (by decide +kernel) (by decide +kernel)), (zTb_in 2053 (by decide +kernel) (by decide +kernel)), by decide +kernel, by decide +kernel⟩
theorem lv_M_497 : zLv "DebtDoorsModel" 497 y_M_goesAlong 2 12 := ⟨⟨(zTb_in 2050 (by decide +kernel) (by decide +kernel)), m_M_goesAlong.1, m_M_goesAlong.2.1, m_M_goesAlong.2.2⟩, _, rfl, rfl⟩
theorem m_M_small : Cond.static y_M_small.1 ∈ zTb ∧ Cond.initialized y_M_small.1.cls ∈ zTb ∧ Cond.code y_M_small.1 y_M_small.2.1 y_M_small.2.2.1 y_M_small.2.2.2 ∈ zTb ∧ (y_M_small.1.cls ≠ "java/lang/invoke/MethodHandle" ∧ y_M_small.1.cls ≠ "java/lang/invoke/VarHandle" ∧ (parseMethodDescriptor y_M_small.1.desc).map (fun d => d.parameters.length) = some 1) ∧ y_M_small.2.2.1 ≤ 20 :=
  ⟨(zTb_in 2055 (by decide +kernel) (by decide +kernel)), (zTb_in 151 (by decide +kernel) (by decide +kernel)), (zTb_in 2056 (by decide +kernel) (by decide +kernel)), by decide +kernel, by decide +kernel⟩
theorem ls_M_501 : zLs "DebtDoorsModel" 501 y_M_small 1 := Or.inl ⟨(zTb_in 2054 (by decide +kernel) (by decide +kernel)), m_M_small⟩
theorem fp_12_49 : zFp 12 49 0 := ⟨_, rfl, rfl, rfl, by decide⟩
theorem fp_12_48 : zFp 12 48 0 := ⟨_, rfl, rfl, rfl, by decide⟩
theorem fp_12_50 : zFp 12 50 0 := ⟨_, rfl, rfl, rfl, by decide⟩
def y_M_runs : zMt := (⟨"DebtDoorsModel", "runs", "(I)I"⟩, prog_14_method_139_code, 6, some .int)
theorem d_M_runs_0 : decode prog_14_method_139_code 0 = .ok (.aload_n 0, 1) := by decide +kernel
theorem d_M_runs_1 : decode prog_14_method_139_code 1 = .ok (.iload_n 1, 1) := by decide +kernel
theorem d_M_runs_2 : decode prog_14_method_139_code 2 = .ok (.iconst 0, 1) := by decide +kernel
theorem d_M_runs_3 : decode prog_14_method_139_code 3 = .ok (.invokevirtual 497, 3) := by decide +kernel
theorem d_M_runs_6 : decode prog_14_method_139_code 6 = .ok (.aload_n 0, 1) := by decide +kernel
theorem d_M_runs_7 : decode prog_14_method_139_code 7 = .ok (.getfield 489, 3) := by decide +kernel
theorem d_M_runs_10 : decode prog_14_method_139_code 10 = .ok (.istore_n 2, 1) := by decide +kernel
theorem d_M_runs_11 : decode prog_14_method_139_code 11 = .ok (.aload_n 0, 1) := by decide +kernel
theorem d_M_runs_12 : decode prog_14_method_139_code 12 = .ok (.getfield 280, 3) := by decide +kernel
theorem d_M_runs_15 : decode prog_14_method_139_code 15 = .ok (.istore_n 3, 1) := by decide +kernel
theorem d_M_runs_16 : decode prog_14_method_139_code 16 = .ok (.iconst 0, 1) := by decide +kernel
theorem d_M_runs_17 : decode prog_14_method_139_code 17 = .ok (.istore 4, 2) := by decide +kernel
theorem d_M_runs_19 : decode prog_14_method_139_code 19 = .ok (.iload 4, 2) := by decide +kernel
theorem d_M_runs_21 : decode prog_14_method_139_code 21 = .ok (.iload_n 2, 1) := by decide +kernel
theorem d_M_runs_22 : decode prog_14_method_139_code 22 = .ok (.if_icmp .ge 160, 3) := by decide +kernel
theorem d_M_runs_25 : decode prog_14_method_139_code 25 = .ok (.aload_n 0, 1) := by decide +kernel
theorem d_M_runs_26 : decode prog_14_method_139_code 26 = .ok (.iload_n 1, 1) := by decide +kernel
theorem d_M_runs_27 : decode prog_14_method_139_code 27 = .ok (.iconst 1, 1) := by decide +kernel
theorem d_M_runs_28 : decode prog_14_method_139_code 28 = .ok (.invokevirtual 497, 3) := by decide +kernel
theorem d_M_runs_31 : decode prog_14_method_139_code 31 = .ok (.aload_n 0, 1) := by decide +kernel
theorem d_M_runs_32 : decode prog_14_method_139_code 32 = .ok (.getfield 492, 3) := by decide +kernel
theorem d_M_runs_35 : decode prog_14_method_139_code 35 = .ok (.ifCond .ne 6, 3) := by decide +kernel
theorem d_M_runs_38 : decode prog_14_method_139_code 38 = .ok (.goto 138, 3) := by decide +kernel
theorem d_M_runs_41 : decode prog_14_method_139_code 41 = .ok (.aload_n 0, 1) := by decide +kernel
theorem d_M_runs_42 : decode prog_14_method_139_code 42 = .ok (.getfield 486, 3) := by decide +kernel
theorem d_M_runs_45 : decode prog_14_method_139_code 45 = .ok (.ifCond .ne 6, 3) := by decide +kernel
theorem d_M_runs_48 : decode prog_14_method_139_code 48 = .ok (.bipush (-3), 2) := by decide +kernel
theorem d_M_runs_50 : decode prog_14_method_139_code 50 = .ok (.ireturn, 1) := by decide +kernel
theorem d_M_runs_51 : decode prog_14_method_139_code 51 = .ok (.aload_n 0, 1) := by decide +kernel
theorem d_M_runs_52 : decode prog_14_method_139_code 52 = .ok (.getfield 483, 3) := by decide +kernel
theorem d_M_runs_55 : decode prog_14_method_139_code 55 = .ok (.bipush 26, 2) := by decide +kernel
theorem d_M_runs_57 : decode prog_14_method_139_code 57 = .ok (.if_icmp .ne 10, 3) := by decide +kernel
theorem d_M_runs_60 : decode prog_14_method_139_code 60 = .ok (.aload_n 0, 1) := by decide +kernel
theorem d_M_runs_61 : decode prog_14_method_139_code 61 = .ok (.invokevirtual 387, 3) := by decide +kernel
theorem d_M_runs_64 : decode prog_14_method_139_code 64 = .ok (.goto 77, 3) := by decide +kernel
theorem d_M_runs_67 : decode prog_14_method_139_code 67 = .ok (.aload_n 0, 1) := by decide +kernel
theorem d_M_runs_68 : decode prog_14_method_139_code 68 = .ok (.getfield 483, 3) := by decide +kernel
theorem d_M_runs_71 : decode prog_14_method_139_code 71 = .ok (.bipush 24, 2) := by decide +kernel
theorem d_M_runs_73 : decode prog_14_method_139_code 73 = .ok (.if_icmp .ne 37, 3) := by decide +kernel
theorem d_M_runs_76 : decode prog_14_method_139_code 76 = .ok (.aload_n 0, 1) := by decide +kernel
theorem d_M_runs_77 : decode prog_14_method_139_code 77 = .ok (.aload_n 0, 1) := by decide +kernel
theorem d_M_runs_78 : decode prog_14_method_139_code 78 = .ok (.getfield 110, 3) := by decide +kernel
theorem d_M_runs_81 : decode prog_14_method_139_code 81 = .ok (.iconst 0, 1) := by decide +kernel
theorem d_M_runs_82 : decode prog_14_method_139_code 82 = .ok (.laload, 1) := by decide +kernel
theorem d_M_runs_83 : decode prog_14_method_139_code 83 = .ok (.invokestatic 501, 3) := by decide +kernel
theorem d_M_runs_86 : decode prog_14_method_139_code 86 = .ok (.aload_n 0, 1) := by decide +kernel
theorem d_M_runs_87 : decode prog_14_method_139_code 87 = .ok (.getfield 110, 3) := by decide +kernel
theorem d_M_runs_90 : decode prog_14_method_139_code 90 = .ok (.iconst 1, 1) := by decide +kernel
theorem d_M_runs_91 : decode prog_14_method_139_code 91 = .ok (.laload, 1) := by decide +kernel
theorem d_M_runs_92 : decode prog_14_method_139_code 92 = .ok (.invokestatic 501, 3) := by decide +kernel
theorem d_M_runs_95 : decode prog_14_method_139_code 95 = .ok (.aload_n 0, 1) := by decide +kernel
theorem d_M_runs_96 : decode prog_14_method_139_code 96 = .ok (.getfield 110, 3) := by decide +kernel
theorem d_M_runs_99 : decode prog_14_method_139_code 99 = .ok (.iconst 2, 1) := by decide +kernel
theorem d_M_runs_100 : decode prog_14_method_139_code 100 = .ok (.laload, 1) := by decide +kernel
theorem d_M_runs_101 : decode prog_14_method_139_code 101 = .ok (.invokestatic 501, 3) := by decide +kernel
theorem d_M_runs_104 : decode prog_14_method_139_code 104 = .ok (.invokevirtual 378, 3) := by decide +kernel
theorem d_M_runs_107 : decode prog_14_method_139_code 107 = .ok (.goto 34, 3) := by decide +kernel
theorem d_M_runs_110 : decode prog_14_method_139_code 110 = .ok (.aload_n 0, 1) := by decide +kernel
theorem d_M_runs_111 : decode prog_14_method_139_code 111 = .ok (.aload_n 0, 1) := by decide +kernel
theorem d_M_runs_112 : decode prog_14_method_139_code 112 = .ok (.getfield 110, 3) := by decide +kernel
theorem d_M_runs_115 : decode prog_14_method_139_code 115 = .ok (.iconst 0, 1) := by decide +kernel
theorem d_M_runs_116 : decode prog_14_method_139_code 116 = .ok (.laload, 1) := by decide +kernel
theorem d_M_runs_117 : decode prog_14_method_139_code 117 = .ok (.invokestatic 501, 3) := by decide +kernel
theorem d_M_runs_120 : decode prog_14_method_139_code 120 = .ok (.aload_n 0, 1) := by decide +kernel
theorem d_M_runs_121 : decode prog_14_method_139_code 121 = .ok (.getfield 110, 3) := by decide +kernel
theorem d_M_runs_124 : decode prog_14_method_139_code 124 = .ok (.iconst 1, 1) := by decide +kernel
theorem d_M_runs_125 : decode prog_14_method_139_code 125 = .ok (.laload, 1) := by decide +kernel
theorem d_M_runs_126 : decode prog_14_method_139_code 126 = .ok (.invokestatic 501, 3) := by decide +kernel
theorem d_M_runs_129 : decode prog_14_method_139_code 129 = .ok (.aload_n 0, 1) := by decide +kernel
theorem d_M_runs_130 : decode prog_14_method_139_code 130 = .ok (.getfield 110, 3) := by decide +kernel
theorem d_M_runs_133 : decode prog_14_method_139_code 133 = .ok (.iconst 2, 1) := by decide +kernel
theorem d_M_runs_134 : decode prog_14_method_139_code 134 = .ok (.laload, 1) := by decide +kernel
theorem d_M_runs_135 : decode prog_14_method_139_code 135 = .ok (.invokestatic 501, 3) := by decide +kernel
theorem d_M_runs_138 : decode prog_14_method_139_code 138 = .ok (.invokevirtual 384, 3) := by decide +kernel
theorem d_M_runs_141 : decode prog_14_method_139_code 141 = .ok (.istore 5, 2) := by decide +kernel
theorem d_M_runs_143 : decode prog_14_method_139_code 143 = .ok (.iload 5, 2) := by decide +kernel
theorem d_M_runs_145 : decode prog_14_method_139_code 145 = .ok (.ifCond .ge 6, 3) := by decide +kernel
theorem d_M_runs_148 : decode prog_14_method_139_code 148 = .ok (.iload 5, 2) := by decide +kernel
theorem d_M_runs_150 : decode prog_14_method_139_code 150 = .ok (.ireturn, 1) := by decide +kernel
theorem d_M_runs_151 : decode prog_14_method_139_code 151 = .ok (.aload_n 0, 1) := by decide +kernel
theorem d_M_runs_152 : decode prog_14_method_139_code 152 = .ok (.getfield 483, 3) := by decide +kernel
theorem d_M_runs_155 : decode prog_14_method_139_code 155 = .ok (.bipush 26, 2) := by decide +kernel
theorem d_M_runs_157 : decode prog_14_method_139_code 157 = .ok (.if_icmp .eq 9, 3) := by decide +kernel
theorem d_M_runs_160 : decode prog_14_method_139_code 160 = .ok (.aload_n 0, 1) := by decide +kernel
theorem d_M_runs_161 : decode prog_14_method_139_code 161 = .ok (.iload 5, 2) := by decide +kernel
theorem d_M_runs_163 : decode prog_14_method_139_code 163 = .ok (.putfield 474, 3) := by decide +kernel
theorem d_M_runs_166 : decode prog_14_method_139_code 166 = .ok (.aload_n 0, 1) := by decide +kernel
theorem d_M_runs_167 : decode prog_14_method_139_code 167 = .ok (.dup, 1) := by decide +kernel
theorem d_M_runs_168 : decode prog_14_method_139_code 168 = .ok (.getfield 471, 3) := by decide +kernel
theorem d_M_runs_171 : decode prog_14_method_139_code 171 = .ok (.iconst 1, 1) := by decide +kernel
theorem d_M_runs_172 : decode prog_14_method_139_code 172 = .ok (.iadd, 1) := by decide +kernel
theorem d_M_runs_173 : decode prog_14_method_139_code 173 = .ok (.putfield 471, 3) := by decide +kernel
theorem d_M_runs_176 : decode prog_14_method_139_code 176 = .ok (.iinc 4 1, 3) := by decide +kernel
theorem d_M_runs_179 : decode prog_14_method_139_code 179 = .ok (.goto (-160), 3) := by decide +kernel
theorem d_M_runs_182 : decode prog_14_method_139_code 182 = .ok (.aload_n 0, 1) := by decide +kernel
theorem d_M_runs_183 : decode prog_14_method_139_code 183 = .ok (.iload_n 3, 1) := by decide +kernel
theorem d_M_runs_184 : decode prog_14_method_139_code 184 = .ok (.putfield 477, 3) := by decide +kernel
theorem d_M_runs_187 : decode prog_14_method_139_code 187 = .ok (.iconst 0, 1) := by decide +kernel
theorem d_M_runs_188 : decode prog_14_method_139_code 188 = .ok (.ireturn, 1) := by decide +kernel
def w_M_runs {d : Nat} (hd : 2 ≤ d) := (show SS ("DebtDoorsModel", prog_14_method_139_code, 6) (some .int) d 0 0 0 0 _ from (sS (p1 := 6) (sV (xVv lv_M_497 (xA (rAi (rAi (rAr rA0 (rAn 0 d_M_runs_0 rfl)) (rIn 1 d_M_runs_1 rfl)) (rI d_M_runs_2 rfl))) (by decide) d_M_runs_3)) (sS (p1 := 11) (sIn 2 (xE (rF 51 fl_M_489 nk_12_51 (rAn 0 d_M_runs_6 rfl) d_M_runs_7 rfl)) d_M_runs_10 rfl (by decide)) (sS (p1 := 16) (sIn 3 (xE (rF 20 fl_M_280 nk_12_20 (rAn 0 d_M_runs_11 rfl) d_M_runs_12 rfl)) d_M_runs_15 rfl (by decide)) (sS (p1 := 182) (sS (p1 := 19) (sI (xE (rI d_M_runs_16 rfl)) d_M_runs_17 (by decide)) (sLp (ps := 176) (tt := 25) (pn := 182) (p1 := 0) (p2 := 0) (xC (rNot (rJ2 (tgt := 182) j_ge (rIl d_M_runs_19) (rIn 2 d_M_runs_21 rfl) d_M_runs_22 (by decide)))) (sS (p1 := 31) (sV (xVv lv_M_497 (xA (rAi (rAi (rAr rA0 (rAn 0 d_M_runs_25 rfl)) (rIn 1 d_M_runs_26 rfl)) (rI d_M_runs_27 rfl))) (by decide) d_M_runs_28)) (sS (p1 := 41) (sIf (pn := 41) (tt := 176) (xC (rNot (rGf (p2 := 176) (rJ1 (tgt := 41) k_ne (rF 54 fl_M_492 nk_12_54 (rAn 0 d_M_runs_31 rfl) d_M_runs_32 rfl) d_M_runs_35 (by decide)) d_M_runs_38 (by decide)))) sCo0) (sS (p1 := 51) (sIf (pn := 51) (tt := 48) (xC (rNot (rJ1 (tgt := 51) k_ne (rF 53 fl_M_486 nk_12_53 (rAn 0 d_M_runs_41 rfl) d_M_runs_42 rfl) d_M_runs_45 (by decide)))) (sRi (xE (rB d_M_runs_48 rfl)) d_M_runs_50 rfl)) (sS (p1 := 143) (sI (xT2 (xC (rNot (rJ2 (tgt := 67) j_ne (rF 52 fl_M_483 nk_12_52 (rAn 0 d_M_runs_51 rfl) d_M_runs_52 rfl) (rB d_M_runs_55 rfl) d_M_runs_57 (by decide)))) (xGoE (p2 := 141) (xV lv_M_387 (xA (rAr rA0 (rAn 0 d_M_runs_60 rfl))) (by decide) d_M_runs_61) d_M_runs_64 (by decide)) (xT2 (xC (rNot (rJ2 (tgt := 110) j_ne (rF 52 fl_M_483 nk_12_52 (rAn 0 d_M_runs_67 rfl) d_M_runs_68 rfl) (rB d_M_runs_71 rfl) d_M_runs_73 (by decide)))) (xGoE (p2 := 141) (xV lv_M_378 (xA (rAi (rAi (rAi (rAr rA0 (rAn 0 d_M_runs_76 rfl)) (rS p_M_small (Nat.le_trans (Nat.le_of_ble_eq_true rfl) hd) ls_M_501 (rAL rA0 (rLa (rFr fl_M_110 nk_12_55 (rAn 0 d_M_runs_77 rfl) d_M_runs_78) (rI d_M_runs_81 rfl) d_M_runs_82)) (by decide) d_M_runs_83)) (rS p_M_small (Nat.le_trans (Nat.le_of_ble_eq_true rfl) hd) ls_M_501 (rAL rA0 (rLa (rFr fl_M_110 nk_12_55 (rAn 0 d_M_runs_86 rfl) d_M_runs_87) (rI d_M_runs_90 rfl) d_M_runs_91)) (by decide) d_M_runs_92)) (rS p_M_small (Nat.le_trans (Nat.le_of_ble_eq_true rfl) hd) ls_M_501 (rAL rA0 (rLa (rFr fl_M_110 nk_12_55 (rAn 0 d_M_runs_95 rfl) d_M_runs_96) (rI d_M_runs_99 rfl) d_M_runs_100)) (by decide) d_M_runs_101))) (by decide) d_M_runs_104) d_M_runs_107 (by decide)) (xV lv_M_384 (xA (rAi (rAi (rAi (rAr rA0 (rAn 0 d_M_runs_110 rfl)) (rS p_M_small (Nat.le_trans (Nat.le_of_ble_eq_true rfl) hd) ls_M_501 (rAL rA0 (rLa (rFr fl_M_110 nk_12_55 (rAn 0 d_M_runs_111 rfl) d_M_runs_112) (rI d_M_runs_115 rfl) d_M_runs_116)) (by decide) d_M_runs_117)) (rS p_M_small (Nat.le_trans (Nat.le_of_ble_eq_true rfl) hd) ls_M_501 (rAL rA0 (rLa (rFr fl_M_110 nk_12_55 (rAn 0 d_M_runs_120 rfl) d_M_runs_121) (rI d_M_runs_124 rfl) d_M_runs_125)) (by decide) d_M_runs_126)) (rS p_M_small (Nat.le_trans (Nat.le_of_ble_eq_true rfl) hd) ls_M_501 (rAL rA0 (rLa (rFr fl_M_110 nk_12_55 (rAn 0 d_M_runs_129 rfl) d_M_runs_130) (rI d_M_runs_133 rfl) d_M_runs_134)) (by decide) d_M_runs_135))) (by decide) d_M_runs_138))) d_M_runs_141 (by decide)) (sS (p1 := 151) (sIf (pn := 151) (tt := 148) (xC (rNot (rJ1 (tgt := 151) k_ge (rIl d_M_runs_143) d_M_runs_145 (by decide)))) (sRi (xE (rIl d_M_runs_148)) d_M_runs_150 rfl)) (sS (p1 := 166) (sIf (pn := 166) (tt := 160) (xC (rNot (rJ2 (tgt := 166) j_eq (rF 52 fl_M_483 nk_12_52 (rAn 0 d_M_runs_151 rfl) d_M_runs_152 rfl) (rB d_M_runs_155 rfl) d_M_runs_157 (by decide)))) (sP 49 fl_M_474 fp_12_49 nk_12_49 (rAn 0 d_M_runs_160 rfl) (xE (rIl d_M_runs_161)) d_M_runs_163 rfl)) (sPo 48 o_add fl_M_471 fp_12_48 nk_12_48 (rAn 0 d_M_runs_166 rfl) d_M_runs_167 d_M_runs_168 (rI d_M_runs_171 rfl) d_M_runs_172 d_M_runs_173 rfl))))))) (sGo (pn := 19) (sInc d_M_runs_176 (by decide)) d_M_runs_179 (by decide)))) (sS (p1 := 187) (sP 50 fl_M_477 fp_12_50 nk_12_50 (rAn 0 d_M_runs_182 rfl) (xE (rIn 3 d_M_runs_183 rfl)) d_M_runs_184 rfl) (sRi (xE (rI d_M_runs_187 rfl)) d_M_runs_188 rfl)))))))
theorem q_M_runs {d : Nat} (hd : 54 ≤ d) {μ0 μ : zMem} {Z : Zt} {F : Option (List Cls)} {x : OrS} {Q : zTk} {t l w0 t1 l1 n : Nat} {cl : Cls} {cd : List Int} (hO : OrM Z F x μ0 μ) (hQ : okK Q) (hL : LwM (μ 357) 6 Q) (hg : μ 355 50 = 2400 + (t : Int)) (hp : pOrdC Q.1 Q.2.1 t l w0 = (t1, some (l1, cl, cd))) (ht1 : t1 ≤ 400) (hl : l ≤ 50) (hx : okO2 n x) (hn : n ≤ 900) : zSp d 0 0 y_M_runs zT0 [vr 355, vi (2400 + (Q.2.2.2 : Int))] μ zT0 (fun r μ' => ∃ v : Int, r = some (vi v) ∧ OrM Z F (orI Z F cl x cl.2.1.toNat).2 μ0 μ' ∧ (0 ≤ (orI Z F cl x cl.2.1.toNat).1 → v = 0 ∧ μ' 355 50 = 2400 + (t1 : Int) + 1) ∧ ((orI Z F cl x cl.2.1.toNat).1 < 0 → v = (orI Z F cl x cl.2.1.toNat).1)) := by
  refine zSp.ss [vr 355, vi (2400 + (Q.2.2.2 : Int)), vx 0, vx 0, vx 0, vx 0] rfl (w_M_runs (Nat.le_trans (by decide) hd)) rfl rfl ?_
  (try simp only [zit_e, Bool.and_eq_true, Bool.or_eq_true, Bool.not_eq_true', Bool.and_eq_false_iff, Bool.or_eq_false_iff, Bool.not_eq_false', zbe, zdt, zdf, zb2_p, zbp_0, zbp_1, zbp_inj, zbp_01, Bool.true_eq_false, Bool.false_eq_true, true_and, and_true, Decidable.not_not, Classical.not_not, implies_true, List.nil_append, List.cons_append, List.append_assoc, Option.some.injEq, Sum.inl.injEq, zSw_c, zSw_n]); (try simp only [zit_e, Bool.and_eq_true, Bool.or_eq_true, Bool.not_eq_true', Bool.and_eq_false_iff, Bool.or_eq_false_iff, Bool.not_eq_false', zbe, zdt, zdf, zb2_p, zbp_0, zbp_1, zbp_inj, zbp_01, Bool.true_eq_false, Bool.false_eq_true, true_and, and_true, Decidable.not_not, Classical.not_not, implies_true, List.nil_append, List.cons_append, List.append_assoc, Option.some.injEq, Sum.inl.injEq, zSw_c, zSw_n, zc_355]); (try simp only [zi_cs, zi_c0, zii_cs, zii_c0, zl_cs, zl_c0, zll_cs, zll_c0, zr_cs, zr_c0, zrr_cs, zrr_c0, zxs_cs, zxs_c0, zxx_cs, zxx_c0, zfree_c0, zfree_c1, zfree_cs, zfree_cz, zlong_i, zlong_r, zlong_x, zset_0, zset_s, true_and, and_true, Option.some.injEq, Sum.inl.injEq, Sum.inr.injEq, zb2_p, zbp_0, zbp_1, zbp_inj, zbp_01, Nat.zero_add, Nat.reduceAdd, implies_true, List.nil_append, List.cons_append, List.append_assoc, Int.not_lt, Int.not_le, Decidable.not_not, Int.zero_add, Int.reduceLE, Int.reduceLT, Int.reduceEq, Int.reduceNe, Int.reduceAdd, Int.reduceSub, Int.reduceMul, Int.reduceNeg, Int.reduceToNat, Nat.reduceMul, Nat.reduceLT, Nat.reduceEqDiff, and_self, ite_true, ite_false, zx1, zx2, zRecv, List.length_cons, List.length_nil, ne_eq, not_true_eq_false, not_false_eq_true, true_or, or_true, or_false, false_or, and_false, false_and, zf01, zf10, reduceCtorEq, zSw_c, zSw_n, zm_r, zit_T, zit_F, false_implies, true_implies, zc_355])
  obtain ⟨hc1, hc2, hc3⟩ := pOrdC_k hp
  have hZ := hO.1.1
  have hbx : ∀ {y : OrS} {m : Nat}, okO2 m y → m ≤ 1000 → bW (orW Z y) := fun {y m} hy hm => fillO_b hy.1 (by have := hy.2.1; omega) hy.2.2
  have hW0 : fillO Z x.1 (μ 355 48) (μ 355 49) x.2.2.2.2 = orW Z x := by
    rw [hO.2.2.2.1.1, hO.2.2.2.1.2]
    rfl
  refine zCw.use (q_M_goesAlong (d := 46) (by decide) hO.1 hQ hL hg hp hl (Or.inl rfl) hW0 (hbx hx (by omega))) (by omega) (fun q μ1 e => ?_)
  obtain ⟨rfl, g1, g2, g3, g4, g5⟩ := e
  rw [g3, g4]
  have h50 : μ1 355 50 = 2400 + (t : Int) := (g1.2 50 (by decide) (by decide) (by decide) (by decide) (by decide) (by decide) (by decide) (by decide)).trans hg
  have hO1 : OrM Z F x μ0 μ1 := hO.g hO.1.2.2.2.2.2 g1
  have hL1 : ∀ {y : OrS} {X : zMem}, OrM Z F y μ0 X → LwM (X 357) 6 Q := by
    intro y X hX
    refine ⟨?_, fun u hu => ?_⟩
    · rw [hX.2.2.2.2.1 _ (by decide), ← hO.2.2.2.2.1 _ (by decide)]
      exact hL.1
    · rw [hX.2.2.2.2.1 _ (by omega), ← hO.2.2.2.2.1 _ (by omega), hX.2.2.2.2.1 _ (by omega), ← hO.2.2.2.2.1 _ (by omega)]
      exact hL.2 u hu
  refine ⟨rfl, ?_⟩
  refine zLoop.up cl.2.1.toNat (fun k ρ μ2 => ∃ x5 : zV, ρ = [vr 355, vi (2400 + (Q.2.2.2 : Int)), vi cl.2.1, vi (2400 + (t1 : Int) + 1), vi k, x5] ∧ OrM Z F (orI Z F cl x k).2 μ0 μ2 ∧ (orI Z F cl x k).1 = 0 ∧ μ2 355 50 = 2400 + (t : Int)) ⟨_, rfl, hO1, rfl, h50⟩ ?_
  rintro k ρ μ2 hk ⟨x5, rfl, hO2, hz2, h502⟩
  have hok2 := (orI_ok (F := F) (cl := cl) hZ hx k).2
  (try simp only [zit_e, Bool.and_eq_true, Bool.or_eq_true, Bool.not_eq_true', Bool.and_eq_false_iff, Bool.or_eq_false_iff, Bool.not_eq_false', zbe, zdt, zdf, zb2_p, zbp_0, zbp_1, zbp_inj, zbp_01, Bool.true_eq_false, Bool.false_eq_true, true_and, and_true, Decidable.not_not, Classical.not_not, implies_true, List.nil_append, List.cons_append, List.append_assoc, Option.some.injEq, Sum.inl.injEq, zSw_c, zSw_n]); (try simp only [zit_e, Bool.and_eq_true, Bool.or_eq_true, Bool.not_eq_true', Bool.and_eq_false_iff, Bool.or_eq_false_iff, Bool.not_eq_false', zbe, zdt, zdf, zb2_p, zbp_0, zbp_1, zbp_inj, zbp_01, Bool.true_eq_false, Bool.false_eq_true, true_and, and_true, Decidable.not_not, Classical.not_not, implies_true, List.nil_append, List.cons_append, List.append_assoc, Option.some.injEq, Sum.inl.injEq, zSw_c, zSw_n, zc_355]); (try simp only [zi_cs, zi_c0, zii_cs, zii_c0, zl_cs, zl_c0, zll_cs, zll_c0, zr_cs, zr_c0, zrr_cs, zrr_c0, zxs_cs, zxs_c0, zxx_cs, zxx_c0, zfree_c0, zfree_c1, zfree_cs, zfree_cz, zlong_i, zlong_r, zlong_x, zset_0, zset_s, true_and, and_true, Option.some.injEq, Sum.inl.injEq, Sum.inr.injEq, zb2_p, zbp_0, zbp_1, zbp_inj, zbp_01, Nat.zero_add, Nat.reduceAdd, implies_true, List.nil_append, List.cons_append, List.append_assoc, Int.not_lt, Int.not_le, Decidable.not_not, Int.zero_add, Int.reduceLE, Int.reduceLT, Int.reduceEq, Int.reduceNe, Int.reduceAdd, Int.reduceSub, Int.reduceMul, Int.reduceNeg, Int.reduceToNat, Nat.reduceMul, Nat.reduceLT, Nat.reduceEqDiff, and_self, ite_true, ite_false, zx1, zx2, zRecv, List.length_cons, List.length_nil, ne_eq, not_true_eq_false, not_false_eq_true, true_or, or_true, or_false, false_or, and_false, false_and, zf01, zf10, reduceCtorEq, zSw_c, zSw_n, zm_r, zit_T, zit_F, false_implies, true_implies, zc_355])
  refine zif (fun c2 => ?_) (fun c2 => ?_)
  · have hR : orI Z F cl x (k + 1) = orR Z F cl (orI Z F cl x k).2 := by
      rw [orI, if_neg (by omega)]
    have hrest : (orR Z F cl (orI Z F cl x k).2).1 < 0 → orI Z F cl x cl.2.1.toNat = orR Z F cl (orI Z F cl x k).2 := fun q => by
      rw [← hR] at q ⊢
      have := orI_n q (cl.2.1.toNat - (k + 1))
      rw [show k + 1 + (cl.2.1.toNat - (k + 1)) = cl.2.1.toNat by omega] at this
      exact this
    generalize (orI Z F cl x k).2 = y at *
    have hb := hbx hok2 (by omega)
    have hW2 : fillO Z y.1 (μ2 355 48) (μ2 355 49) y.2.2.2.2 = orW Z y := by
      rw [hO2.2.2.2.1.1, hO2.2.2.2.1.2]
      rfl
    refine zCw.use (q_M_goesAlong (d := 46) (by decide) hO2.1 hQ (hL1 hO2) h502 hp hl (Or.inr rfl) hW2 hb) (by omega) (fun q μ3 e => ?_)
    obtain ⟨rfl, g1, g2, g3, g4, g5⟩ := e
    obtain ⟨g6, g7, g8⟩ := g5 rfl
    have hO3 := hO2.g hb g1
    have h503 : μ3 355 50 = 2400 + (t : Int) := (g1.2 50 (by decide) (by decide) (by decide) (by decide) (by decide) (by decide) (by decide) (by decide)).trans h502
    refine ⟨rfl, zif (fun c4 => ?_) (fun c4 => ?_)⟩
    · have hh : hlT cl.2.2.2.2.2.2 (orW Z y) = false := by
        rcases q : hlT cl.2.2.2.2.2.2 (orW Z y) with _ | _
        · rfl
        · exact absurd c4 (g6.mpr q)
      have hr := orR_0 (F := F) hh
      rw [hr] at hR
      refine ⟨by ((try simp only [zI_e]); (first | done | omega | skip)), znx (by omega) ⟨_, rfl, ?_, ?_, h503⟩⟩
      · rw [hR]
        exact hO3
      · rw [hR]
    have hh : hlT cl.2.2.2.2.2.2 (orW Z y) = true := g6.mp c4
    have bad : ∀ {c : Int}, c = orC Z F y.1 cl (orW Z y) → c < 0 → ∃ v : Int, c = v ∧ OrM Z F (orI Z F cl x cl.2.1.toNat).2 μ0 μ3 ∧ (0 ≤ (orI Z F cl x cl.2.1.toNat).1 → v = 0 ∧ μ3 355 50 = 2400 + (t1 : Int) + 1) ∧ ((orI Z F cl x cl.2.1.toNat).1 < 0 → v = (orI Z F cl x cl.2.1.toNat).1) := by
      intro c e1 e2
      have hr := orR_1 (F := F) hh (by omega)
      rw [hr] at hrest
      rw [hrest (by show orC Z F y.1 cl (orW Z y) < 0; omega)]
      exact ⟨_, rfl, hO3, fun q => absurd q (by show ¬ 0 ≤ orC Z F y.1 cl (orW Z y); omega), fun _ => e1⟩
    have hdn := hok2.2.1
    have gd : ∀ {X : zMem} {n : Int}, n = orC Z F y.1 cl (orW Z y) → 0 ≤ n → MTx X Z F (orA Z F y.1 cl (orW Z y)) (orW Z y) → KpM (orK cl) μ3 X → (if ¬ X 355 52 = 26 then zI (X 355 48 + 1) ∧ zI ((k : Int) + 1) ∧ ∃ m', m' < cl.2.1.toNat - k ∧ ∃ j', m' = cl.2.1.toNat - j' ∧ j' ≤ cl.2.1.toNat ∧ ∃ x5, [vr 355, vi (2400 + (Q.2.2.2 : Int)), vi cl.2.1, vi (2400 + (t1 : Int) + 1), vi ((k : Int) + 1), vi n] = [vr 355, vi (2400 + (Q.2.2.2 : Int)), vi cl.2.1, vi (2400 + (t1 : Int) + 1), vi (j' : Int), x5] ∧ OrM Z F (orI Z F cl x j').2 μ0 (zm (zm X 355 49 n) 355 48 (X 355 48 + 1)) ∧ (orI Z F cl x j').1 = 0 ∧ X 355 50 = 2400 + (t : Int) else zI (X 355 48 + 1) ∧ zI ((k : Int) + 1) ∧ ∃ m', m' < cl.2.1.toNat - k ∧ ∃ j', m' = cl.2.1.toNat - j' ∧ j' ≤ cl.2.1.toNat ∧ ∃ x5, [vr 355, vi (2400 + (Q.2.2.2 : Int)), vi cl.2.1, vi (2400 + (t1 : Int) + 1), vi ((k : Int) + 1), vi n] = [vr 355, vi (2400 + (Q.2.2.2 : Int)), vi cl.2.1, vi (2400 + (t1 : Int) + 1), vi (j' : Int), x5] ∧ OrM Z F (orI Z F cl x j').2 μ0 (zm X 355 48 (X 355 48 + 1)) ∧ (orI Z F cl x j').1 = 0 ∧ X 355 50 = 2400 + (t : Int)) := by
      intro X n e1 e2 hX hK
      have hr := orR_2 (F := F) hh (by omega)
      rw [hr] at hR
      have k52 : X 355 52 = μ3 355 52 := hK.2.2.2.1 52 (by decide) (by decide) (by decide) (by decide) (by decide)
      have k50 : X 355 50 = 2400 + (t : Int) := (hK.2.2.2.1 50 (by decide) (by decide) (by decide) (by decide) (by decide)).trans h503
      have k48 : X 355 48 = y.2.2.1 := (hK.2.2.2.1 48 (by decide) (by decide) (by decide) (by decide) (by decide)).trans hO3.2.2.2.1.1
      have k49 : X 355 49 = y.2.2.2.1 := (hK.2.2.2.1 49 (by decide) (by decide) (by decide) (by decide) (by decide)).trans hO3.2.2.2.1.2
      have hkk : 0 ≤ orK cl ∧ orK cl ≤ 5 := by
        unfold orK zit
        repeat' split
        all_goals omega
      refine zif (fun c6 => ⟨by rw [k48]; ((try simp only [zI_e]); (first | done | omega | skip)), by ((try simp only [zI_e]); (first | done | omega | skip)), znx (by omega) ⟨_, rfl, ?_, by rw [hR], k50⟩⟩) (fun c6 => ⟨by rw [k48]; ((try simp only [zI_e]); (first | done | omega | skip)), by ((try simp only [zI_e]); (first | done | omega | skip)), znx (by omega) ⟨_, rfl, ?_, by rw [hR], k50⟩⟩)
      · rw [hR]
        refine hO3.d hkk hX hK ((zfc.rf.zm (by decide)).zm (by decide)) (fun j p q => by rw [zm_o (Or.inr p), zm_o (Or.inr q)]) ⟨by rw [zm_s, k48], ?_⟩
        rw [zm_o (by decide), zm_s, zit_f (by omega)]
        exact e1
      · rw [hR]
        refine hO3.d hkk hX hK (zfc.rf.zm (by decide)) (fun j p q => by rw [zm_o (Or.inr p)]) ⟨by rw [zm_s, k48], ?_⟩
        rw [zm_o (by decide), k49, zit_t (by omega)]
    have hu3 := hO3.2.1
    have hM3 := hO3.1
    refine zif (fun c5 => ?_) (fun c5 => ?_)
    · have h2 : ¬ cl.1 = 2 := fun q => g8 q c5
      have hB : orB cl (orW Z y) := Classical.byContradiction (fun q => (g7 h2).1.mpr q c5)
      exact bad (orC_B h2 hB).symm (by decide)
    refine zif (fun c6 => ?_) (fun c6 => ?_)
    · have h2 : cl.1 = 2 := by omega
      obtain ⟨o1, o2⟩ := orC_2 (Z := Z) (F := F) (A := y.1) (W := orW Z y) h2
      refine zCw.use (q_R_waitsKept (d := 52) (by decide) hM3 hu3) (by omega) (fun q X e => ?_)
      by_cases c9 : y.1.2.2 < 999
      · rw [zit_t c9] at o1
        obtain ⟨rfl, f1, f2⟩ := e.2 c9
        have hgr := (grw_ok (Z := Z) (F := F) (w := orW Z y) hM3.2.1 c9 _ (Int.le_refl _)).2.2.1
        refine ⟨_, rfl, zif (fun q => absurd q (Int.not_lt.mpr hgr)) (fun _ => gd o1.symm hgr (by rw [o2]; exact f1) ?_)⟩
        have : orK cl = 4 := by
          unfold orK
          rw [zit_t h2]
        rw [this]
        exact f2
      · rw [zit_f c9] at o1
        obtain ⟨rfl, rfl⟩ := e.1 (by show 999 ≤ y.1.2.2; omega)
        exact ⟨_, rfl, zif (fun _ => bad o1.symm (by decide)) (fun q => absurd (show (-3 : Int) < 0 by decide) q)⟩
    · have h2 : ¬ cl.1 = 2 := by omega
      have hB : ¬ orB cl (orW Z y) := (g7 h2).1.mp c5
      have hs := (g7 h2).2
      have s0 : μ3 383 0 = orG cl (orW Z y) 0 := hs 0 (by decide)
      have s1 : μ3 383 1 = orG cl (orW Z y) 1 := hs 1 (by decide)
      have s2 : μ3 383 2 = orG cl (orW Z y) 2 := hs 2 (by decide)
      rw [sm_f, sm_f, sm_f, s0, s1, s2]
      refine zif (fun c7 => ?_) (fun c7 => ?_)
      · obtain ⟨o1, o2⟩ := orC_0 (Z := Z) (F := F) (A := y.1) (show cl.1 = 0 by omega) hB
        obtain ⟨l1, l2⟩ := lend_sm (A := y.1) (g := orG cl (orW Z y) 0) (t := orG cl (orW Z y) 1) (m := orG cl (orW Z y) 2) hZ.1.2
        refine ⟨⟨⟨trivial, trivial⟩, trivial⟩, zCw.use (q_R_lendsKept (d := 4) (by decide) hM3 hu3) (by omega) (fun q X e => ?_)⟩
        rw [show ((y.1, y.2.1, y.2.2.1, y.2.2.2.1, orW Z y) : OrS).1 = y.1 from rfl, l1] at e
        obtain ⟨rfl, e1, e2⟩ := e
        refine ⟨_, rfl, zif (fun q => ?_) (fun q => ?_)⟩
        · obtain rfl := e1 q
          exact bad o1.symm q
        · obtain ⟨f1, f2⟩ := e2 (by omega)
          obtain ⟨q1, q2, q3⟩ := l2 (by omega)
          rw [q1, q2, q3, ← o2] at f1
          refine gd o1.symm (by omega) f1 ?_
          have : orK cl = 0 := by
            unfold orK
            rw [zit_f h2, zit_f (by omega)]
          rw [this]
          exact f2
      · obtain ⟨o1, o2⟩ := orC_1 (Z := Z) (F := F) (A := y.1) (show cl.1 = 1 by omega) hB
        obtain ⟨l1, l2⟩ := pay_sm (A := y.1) (g := orG cl (orW Z y) 0) (t := orG cl (orW Z y) 1) (m := orG cl (orW Z y) 2) hZ.1.2
        refine ⟨⟨⟨trivial, trivial⟩, trivial⟩, zCw.use (q_R_repaysKept (d := 5) (by decide) hM3 hu3) (by omega) (fun q X e => ?_)⟩
        rw [show ((y.1, y.2.1, y.2.2.1, y.2.2.2.1, orW Z y) : OrS).1 = y.1 from rfl, l1] at e
        obtain ⟨rfl, e1, e2⟩ := e
        refine ⟨_, rfl, zif (fun q => ?_) (fun q => ?_)⟩
        · obtain rfl := e1 q
          exact bad o1.symm q
        · obtain ⟨f1, f2⟩ := e2 (by omega)
          obtain ⟨q1, q2, q3⟩ := l2 (by omega)
          rw [q1, q2, ← o2] at f1
          refine gd o1.symm (by omega) f1 ?_
          have : orK cl = 1 := by
            unfold orK
            rw [zit_f h2, zit_t (by omega)]
          rw [this]
          exact f2
  · have hk9 : k = cl.2.1.toNat := by omega
    subst hk9
    refine ⟨_, rfl, ?_, fun _ => rfl, fun q => by omega⟩
    obtain ⟨a1, a2, a3, a4, a5, a6, a7⟩ := hO2
    refine ⟨a1.k (zm_off 357 (by decide)), by rw [zm_o (by decide)]; exact a2, ?_, by rw [zm_o (by decide), zm_o (by decide)]; exact a4, fun i hi => by rw [zm_off 357 (by decide)]; exact a5 i hi, fun j p q r => by rw [zm_o (by omega)]; exact a6 j p q r, a7.zm (by decide)⟩
    have : unM (zm μ2 355 50 (2400 + (t1 : Int) + 1)) = unM μ2 := by
      unfold unM rwM
      rw [zm_o (by decide), zm_off 369 (by decide)]
    rw [this]
    exact a3

