/-! rings: the reference's tries -/
theorem nk_12_41 : zNk 12 41 = none := rfl
theorem fl_M_446 : zFl "DebtDoorsModel" 446 12 43 := ⟨_, rfl, by decide, (zTb_in 1369 (by decide +kernel) (by decide +kernel)), rfl⟩
theorem nk_12_43 : zNk 12 43 = some 0 := rfl
theorem fl_M_449 : zFl "DebtDoorsModel" 449 12 44 := ⟨_, rfl, by decide, (zTb_in 1370 (by decide +kernel) (by decide +kernel)), rfl⟩
theorem nk_12_44 : zNk 12 44 = some 0 := rfl
theorem fp_12_43 : zFp 12 43 0 := ⟨_, rfl, rfl, rfl, by decide⟩
theorem fp_12_44 : zFp 12 44 0 := ⟨_, rfl, rfl, rfl, by decide⟩
theorem nk_12_42 : zNk 12 42 = none := rfl
def y_M_triesRing : zMt := (⟨"DebtDoorsModel", "triesRing", "(II)V"⟩, prog_14_method_120_code, 5, none)
theorem m_M_triesRing : Cond.instanceMethod y_M_triesRing.1 ∈ zTb ∧ Cond.selects y_M_triesRing.1.cls y_M_triesRing.1 y_M_triesRing.1 ∈ zTb ∧ Cond.initialized y_M_triesRing.1.cls ∈ zTb ∧ Cond.code y_M_triesRing.1 y_M_triesRing.2.1 y_M_triesRing.2.2.1 y_M_triesRing.2.2.2 ∈ zTb ∧ (y_M_triesRing.1.cls ≠ "java/lang/invoke/MethodHandle" ∧ y_M_triesRing.1.cls ≠ "java/lang/invoke/VarHandle" ∧ (parseMethodDescriptor y_M_triesRing.1.desc).map (fun d => d.parameters.length) = some 2) ∧ y_M_triesRing.2.2.1 ≤ 20 :=
  ⟨(zTb_in 1987 (by decide +kernel) (by decide +kernel)), (List.mem_filter.mpr ⟨List.mem_append_left _ (by decide +kernel), by decide +kernel⟩), (zTb_in 151 (by decide +kernel) (by decide +kernel)), (zTb_in 1988 (by decide +kernel) (by decide +kernel)), by decide +kernel, by decide +kernel⟩
theorem lv_M_452 : zLv "DebtDoorsModel" 452 y_M_triesRing 2 12 := ⟨⟨(zTb_in 1985 (by decide +kernel) (by decide +kernel)), m_M_triesRing.1, m_M_triesRing.2.1, m_M_triesRing.2.2⟩, _, rfl, rfl⟩
theorem d_M_triesRing_0 : decode prog_14_method_120_code 0 = .ok (.aload_n 0, 1) := by decide +kernel
theorem d_M_triesRing_1 : decode prog_14_method_120_code 1 = .ok (.getfield 95, 3) := by decide +kernel
theorem d_M_triesRing_4 : decode prog_14_method_120_code 4 = .ok (.iload_n 1, 1) := by decide +kernel
theorem d_M_triesRing_5 : decode prog_14_method_120_code 5 = .ok (.iconst 1, 1) := by decide +kernel
theorem d_M_triesRing_6 : decode prog_14_method_120_code 6 = .ok (.isub, 1) := by decide +kernel
theorem d_M_triesRing_7 : decode prog_14_method_120_code 7 = .ok (.iaload, 1) := by decide +kernel
theorem d_M_triesRing_8 : decode prog_14_method_120_code 8 = .ok (.istore_n 3, 1) := by decide +kernel
theorem d_M_triesRing_9 : decode prog_14_method_120_code 9 = .ok (.iload_n 1, 1) := by decide +kernel
theorem d_M_triesRing_10 : decode prog_14_method_120_code 10 = .ok (.iconst 1, 1) := by decide +kernel
theorem d_M_triesRing_11 : decode prog_14_method_120_code 11 = .ok (.if_icmp .le 87, 3) := by decide +kernel
theorem d_M_triesRing_14 : decode prog_14_method_120_code 14 = .ok (.aload_n 0, 1) := by decide +kernel
theorem d_M_triesRing_15 : decode prog_14_method_120_code 15 = .ok (.iload_n 3, 1) := by decide +kernel
theorem d_M_triesRing_16 : decode prog_14_method_120_code 16 = .ok (.aload_n 0, 1) := by decide +kernel
theorem d_M_triesRing_17 : decode prog_14_method_120_code 17 = .ok (.getfield 95, 3) := by decide +kernel
theorem d_M_triesRing_20 : decode prog_14_method_120_code 20 = .ok (.iconst 0, 1) := by decide +kernel
theorem d_M_triesRing_21 : decode prog_14_method_120_code 21 = .ok (.iaload, 1) := by decide +kernel
theorem d_M_triesRing_22 : decode prog_14_method_120_code 22 = .ok (.invokevirtual 178, 3) := by decide +kernel
theorem d_M_triesRing_25 : decode prog_14_method_120_code 25 = .ok (.ifCond .le 73, 3) := by decide +kernel
theorem d_M_triesRing_28 : decode prog_14_method_120_code 28 = .ok (.aload_n 0, 1) := by decide +kernel
theorem d_M_triesRing_29 : decode prog_14_method_120_code 29 = .ok (.getfield 446, 3) := by decide +kernel
theorem d_M_triesRing_32 : decode prog_14_method_120_code 32 = .ok (.ifCond .eq 27, 3) := by decide +kernel
theorem d_M_triesRing_35 : decode prog_14_method_120_code 35 = .ok (.iload_n 1, 1) := by decide +kernel
theorem d_M_triesRing_36 : decode prog_14_method_120_code 36 = .ok (.aload_n 0, 1) := by decide +kernel
theorem d_M_triesRing_37 : decode prog_14_method_120_code 37 = .ok (.getfield 446, 3) := by decide +kernel
theorem d_M_triesRing_40 : decode prog_14_method_120_code 40 = .ok (.if_icmp .lt 19, 3) := by decide +kernel
theorem d_M_triesRing_43 : decode prog_14_method_120_code 43 = .ok (.iload_n 1, 1) := by decide +kernel
theorem d_M_triesRing_44 : decode prog_14_method_120_code 44 = .ok (.aload_n 0, 1) := by decide +kernel
theorem d_M_triesRing_45 : decode prog_14_method_120_code 45 = .ok (.getfield 446, 3) := by decide +kernel
theorem d_M_triesRing_48 : decode prog_14_method_120_code 48 = .ok (.if_icmp .ne 50, 3) := by decide +kernel
theorem d_M_triesRing_51 : decode prog_14_method_120_code 51 = .ok (.iload_n 2, 1) := by decide +kernel
theorem d_M_triesRing_52 : decode prog_14_method_120_code 52 = .ok (.aload_n 0, 1) := by decide +kernel
theorem d_M_triesRing_53 : decode prog_14_method_120_code 53 = .ok (.getfield 449, 3) := by decide +kernel
theorem d_M_triesRing_56 : decode prog_14_method_120_code 56 = .ok (.if_icmp .ge 42, 3) := by decide +kernel
theorem d_M_triesRing_59 : decode prog_14_method_120_code 59 = .ok (.aload_n 0, 1) := by decide +kernel
theorem d_M_triesRing_60 : decode prog_14_method_120_code 60 = .ok (.iload_n 1, 1) := by decide +kernel
theorem d_M_triesRing_61 : decode prog_14_method_120_code 61 = .ok (.putfield 446, 3) := by decide +kernel
theorem d_M_triesRing_64 : decode prog_14_method_120_code 64 = .ok (.aload_n 0, 1) := by decide +kernel
theorem d_M_triesRing_65 : decode prog_14_method_120_code 65 = .ok (.iload_n 2, 1) := by decide +kernel
theorem d_M_triesRing_66 : decode prog_14_method_120_code 66 = .ok (.putfield 449, 3) := by decide +kernel
theorem d_M_triesRing_69 : decode prog_14_method_120_code 69 = .ok (.iconst 0, 1) := by decide +kernel
theorem d_M_triesRing_70 : decode prog_14_method_120_code 70 = .ok (.istore 4, 2) := by decide +kernel
theorem d_M_triesRing_72 : decode prog_14_method_120_code 72 = .ok (.iload 4, 2) := by decide +kernel
theorem d_M_triesRing_74 : decode prog_14_method_120_code 74 = .ok (.iload_n 1, 1) := by decide +kernel
theorem d_M_triesRing_75 : decode prog_14_method_120_code 75 = .ok (.if_icmp .ge 23, 3) := by decide +kernel
theorem d_M_triesRing_78 : decode prog_14_method_120_code 78 = .ok (.aload_n 0, 1) := by decide +kernel
theorem d_M_triesRing_79 : decode prog_14_method_120_code 79 = .ok (.getfield 98, 3) := by decide +kernel
theorem d_M_triesRing_82 : decode prog_14_method_120_code 82 = .ok (.iload 4, 2) := by decide +kernel
theorem d_M_triesRing_84 : decode prog_14_method_120_code 84 = .ok (.aload_n 0, 1) := by decide +kernel
theorem d_M_triesRing_85 : decode prog_14_method_120_code 85 = .ok (.getfield 95, 3) := by decide +kernel
theorem d_M_triesRing_88 : decode prog_14_method_120_code 88 = .ok (.iload 4, 2) := by decide +kernel
theorem d_M_triesRing_90 : decode prog_14_method_120_code 90 = .ok (.iaload, 1) := by decide +kernel
theorem d_M_triesRing_91 : decode prog_14_method_120_code 91 = .ok (.iastore, 1) := by decide +kernel
theorem d_M_triesRing_92 : decode prog_14_method_120_code 92 = .ok (.iinc 4 1, 3) := by decide +kernel
theorem d_M_triesRing_95 : decode prog_14_method_120_code 95 = .ok (.goto (-23), 3) := by decide +kernel
theorem d_M_triesRing_98 : decode prog_14_method_120_code 98 = .ok (.aload_n 0, 1) := by decide +kernel
theorem d_M_triesRing_99 : decode prog_14_method_120_code 99 = .ok (.getfield 95, 3) := by decide +kernel
theorem d_M_triesRing_102 : decode prog_14_method_120_code 102 = .ok (.iconst 0, 1) := by decide +kernel
theorem d_M_triesRing_103 : decode prog_14_method_120_code 103 = .ok (.iaload, 1) := by decide +kernel
theorem d_M_triesRing_104 : decode prog_14_method_120_code 104 = .ok (.iconst 1, 1) := by decide +kernel
theorem d_M_triesRing_105 : decode prog_14_method_120_code 105 = .ok (.iadd, 1) := by decide +kernel
theorem d_M_triesRing_106 : decode prog_14_method_120_code 106 = .ok (.istore 4, 2) := by decide +kernel
theorem d_M_triesRing_108 : decode prog_14_method_120_code 108 = .ok (.iload 4, 2) := by decide +kernel
theorem d_M_triesRing_110 : decode prog_14_method_120_code 110 = .ok (.aload_n 0, 1) := by decide +kernel
theorem d_M_triesRing_111 : decode prog_14_method_120_code 111 = .ok (.invokevirtual 133, 3) := by decide +kernel
theorem d_M_triesRing_114 : decode prog_14_method_120_code 114 = .ok (.if_icmp .ge 52, 3) := by decide +kernel
theorem d_M_triesRing_117 : decode prog_14_method_120_code 117 = .ok (.iload_n 2, 1) := by decide +kernel
theorem d_M_triesRing_118 : decode prog_14_method_120_code 118 = .ok (.iload 4, 2) := by decide +kernel
theorem d_M_triesRing_120 : decode prog_14_method_120_code 120 = .ok (.invokestatic 406, 3) := by decide +kernel
theorem d_M_triesRing_123 : decode prog_14_method_120_code 123 = .ok (.ifCond .ne 37, 3) := by decide +kernel
theorem d_M_triesRing_126 : decode prog_14_method_120_code 126 = .ok (.aload_n 0, 1) := by decide +kernel
theorem d_M_triesRing_127 : decode prog_14_method_120_code 127 = .ok (.iload_n 3, 1) := by decide +kernel
theorem d_M_triesRing_128 : decode prog_14_method_120_code 128 = .ok (.iload 4, 2) := by decide +kernel
theorem d_M_triesRing_130 : decode prog_14_method_120_code 130 = .ok (.invokevirtual 178, 3) := by decide +kernel
theorem d_M_triesRing_133 : decode prog_14_method_120_code 133 = .ok (.ifCond .ne 6, 3) := by decide +kernel
theorem d_M_triesRing_136 : decode prog_14_method_120_code 136 = .ok (.goto 24, 3) := by decide +kernel
theorem d_M_triesRing_139 : decode prog_14_method_120_code 139 = .ok (.aload_n 0, 1) := by decide +kernel
theorem d_M_triesRing_140 : decode prog_14_method_120_code 140 = .ok (.getfield 95, 3) := by decide +kernel
theorem d_M_triesRing_143 : decode prog_14_method_120_code 143 = .ok (.iload_n 1, 1) := by decide +kernel
theorem d_M_triesRing_144 : decode prog_14_method_120_code 144 = .ok (.iload 4, 2) := by decide +kernel
theorem d_M_triesRing_146 : decode prog_14_method_120_code 146 = .ok (.iastore, 1) := by decide +kernel
theorem d_M_triesRing_147 : decode prog_14_method_120_code 147 = .ok (.aload_n 0, 1) := by decide +kernel
theorem d_M_triesRing_148 : decode prog_14_method_120_code 148 = .ok (.iload_n 1, 1) := by decide +kernel
theorem d_M_triesRing_149 : decode prog_14_method_120_code 149 = .ok (.iconst 1, 1) := by decide +kernel
theorem d_M_triesRing_150 : decode prog_14_method_120_code 150 = .ok (.iadd, 1) := by decide +kernel
theorem d_M_triesRing_151 : decode prog_14_method_120_code 151 = .ok (.iload_n 2, 1) := by decide +kernel
theorem d_M_triesRing_152 : decode prog_14_method_120_code 152 = .ok (.iconst 1, 1) := by decide +kernel
theorem d_M_triesRing_153 : decode prog_14_method_120_code 153 = .ok (.iload 4, 2) := by decide +kernel
theorem d_M_triesRing_155 : decode prog_14_method_120_code 155 = .ok (.ishl, 1) := by decide +kernel
theorem d_M_triesRing_156 : decode prog_14_method_120_code 156 = .ok (.ior, 1) := by decide +kernel
theorem d_M_triesRing_157 : decode prog_14_method_120_code 157 = .ok (.invokevirtual 452, 3) := by decide +kernel
theorem d_M_triesRing_160 : decode prog_14_method_120_code 160 = .ok (.iinc 4 1, 3) := by decide +kernel
theorem d_M_triesRing_163 : decode prog_14_method_120_code 163 = .ok (.goto (-55), 3) := by decide +kernel
theorem d_M_triesRing_166 : decode prog_14_method_120_code 166 = .ok (.return_, 1) := by decide +kernel
def w_M_triesRing {d : Nat} (hd : 3 ≤ d) := (show SS ("DebtDoorsModel", prog_14_method_120_code, 5) (none) d 0 0 0 0 _ from (sS (p1 := 9) (sIn 3 (xE (rIa (rFr fl_M_95 nk_12_41 (rAn 0 d_M_triesRing_0 rfl) d_M_triesRing_1) (r2 o_sub (rIn 1 d_M_triesRing_4 rfl) (rI d_M_triesRing_5 rfl) d_M_triesRing_6) d_M_triesRing_7)) d_M_triesRing_8 rfl (by decide)) (sS (p1 := 98) (sIf (pn := 98) (tt := 59) (xC (rAnd (mm := 28) (rAnd (mm := 14) (rNot (rJ2 (tgt := 98) j_le (rIn 1 d_M_triesRing_9 rfl) (rI d_M_triesRing_10 rfl) d_M_triesRing_11 (by decide))) (rNot (rJ1 (tgt := 98) k_le (rV p_M_owed (Nat.le_trans (Nat.le_of_ble_eq_true rfl) hd) lv_M_178 (rAi (rAi (rAr rA0 (rAn 0 d_M_triesRing_14 rfl)) (rIn 3 d_M_triesRing_15 rfl)) (rIa (rFr fl_M_95 nk_12_41 (rAn 0 d_M_triesRing_16 rfl) d_M_triesRing_17) (rI d_M_triesRing_20 rfl) d_M_triesRing_21)) (by decide) d_M_triesRing_22) d_M_triesRing_25 (by decide)))) (rOr (mm := 43) (rOr (mm := 35) (rJ1 (tgt := 59) k_eq (rF 43 fl_M_446 nk_12_43 (rAn 0 d_M_triesRing_28 rfl) d_M_triesRing_29 rfl) d_M_triesRing_32 (by decide)) (rJ2 (tgt := 59) j_lt (rIn 1 d_M_triesRing_35 rfl) (rF 43 fl_M_446 nk_12_43 (rAn 0 d_M_triesRing_36 rfl) d_M_triesRing_37 rfl) d_M_triesRing_40 (by decide))) (rAnd (mm := 51) (rNot (rJ2 (tgt := 98) j_ne (rIn 1 d_M_triesRing_43 rfl) (rF 43 fl_M_446 nk_12_43 (rAn 0 d_M_triesRing_44 rfl) d_M_triesRing_45 rfl) d_M_triesRing_48 (by decide))) (rNot (rJ2 (tgt := 98) j_ge (rIn 2 d_M_triesRing_51 rfl) (rF 44 fl_M_449 nk_12_44 (rAn 0 d_M_triesRing_52 rfl) d_M_triesRing_53 rfl) d_M_triesRing_56 (by decide))))))) (sS (p1 := 64) (sP 43 fl_M_446 fp_12_43 nk_12_43 (rAn 0 d_M_triesRing_59 rfl) (xE (rIn 1 d_M_triesRing_60 rfl)) d_M_triesRing_61 rfl) (sS (p1 := 69) (sP 44 fl_M_449 fp_12_44 nk_12_44 (rAn 0 d_M_triesRing_64 rfl) (xE (rIn 2 d_M_triesRing_65 rfl)) d_M_triesRing_66 rfl) (sS (p1 := 72) (sI (xE (rI d_M_triesRing_69 rfl)) d_M_triesRing_70 (by decide)) (sLp (ps := 92) (tt := 78) (pn := 98) (p1 := 0) (p2 := 0) (xC (rNot (rJ2 (tgt := 98) j_ge (rIl d_M_triesRing_72) (rIn 1 d_M_triesRing_74 rfl) d_M_triesRing_75 (by decide)))) (sAs (rFr fl_M_98 nk_12_42 (rAn 0 d_M_triesRing_78 rfl) d_M_triesRing_79) (rIl d_M_triesRing_82) (xE (rIa (rFr fl_M_95 nk_12_41 (rAn 0 d_M_triesRing_84 rfl) d_M_triesRing_85) (rIl d_M_triesRing_88) d_M_triesRing_90)) d_M_triesRing_91) (sGo (pn := 72) (sInc d_M_triesRing_92 (by decide)) d_M_triesRing_95 (by decide))))))) (sS (p1 := 166) (sS (p1 := 108) (sI (xE (r2 o_add (rIa (rFr fl_M_95 nk_12_41 (rAn 0 d_M_triesRing_98 rfl) d_M_triesRing_99) (rI d_M_triesRing_102 rfl) d_M_triesRing_103) (rI d_M_triesRing_104 rfl) d_M_triesRing_105)) d_M_triesRing_106 (by decide)) (sLp (ps := 160) (tt := 117) (pn := 166) (p1 := 0) (p2 := 0) (xC (rNot (rJ2 (tgt := 166) j_ge (rIl d_M_triesRing_108) (rV p_M_people (Nat.le_trans (Nat.le_of_ble_eq_true rfl) hd) lv_M_133 (rAr rA0 (rAn 0 d_M_triesRing_110 rfl)) (by decide) d_M_triesRing_111) d_M_triesRing_114 (by decide)))) (sS (p1 := 139) (sIf (pn := 139) (tt := 160) (xC (rOr (mm := 126) (rJ1 (tgt := 160) k_ne (rS p_M_isIn (Nat.le_trans (Nat.le_of_ble_eq_true rfl) hd) ls_M_406 (rAi (rAi rA0 (rIn 2 d_M_triesRing_117 rfl)) (rIl d_M_triesRing_118)) (by decide) d_M_triesRing_120) d_M_triesRing_123 (by decide)) (rGt (p2 := 160) (rNot (rJ1 (tgt := 139) k_ne (rV p_M_owed (Nat.le_trans (Nat.le_of_ble_eq_true rfl) hd) lv_M_178 (rAi (rAi (rAr rA0 (rAn 0 d_M_triesRing_126 rfl)) (rIn 3 d_M_triesRing_127 rfl)) (rIl d_M_triesRing_128)) (by decide) d_M_triesRing_130) d_M_triesRing_133 (by decide))) d_M_triesRing_136 (by decide)))) sCo0) (sS (p1 := 147) (sAs (rFr fl_M_95 nk_12_41 (rAn 0 d_M_triesRing_139 rfl) d_M_triesRing_140) (rIn 1 d_M_triesRing_143 rfl) (xE (rIl d_M_triesRing_144)) d_M_triesRing_146) (sV (xVv lv_M_452 (xA (rAi (rAi (rAr rA0 (rAn 0 d_M_triesRing_147 rfl)) (r2 o_add (rIn 1 d_M_triesRing_148 rfl) (rI d_M_triesRing_149 rfl) d_M_triesRing_150)) (r2 o_or (rIn 2 d_M_triesRing_151 rfl) (r2 o_shl (rI d_M_triesRing_152 rfl) (rIl d_M_triesRing_153) d_M_triesRing_155) d_M_triesRing_156))) (by decide) d_M_triesRing_157)))) (sGo (pn := 108) (sInc d_M_triesRing_160 (by decide)) d_M_triesRing_163 (by decide)))) (sRv d_M_triesRing_166 rfl)))))
theorem q_M_triesRing {Z : Zt} {F : Option (List Cls)} {A : Lg} {w : Int → Int} {n p0 : Nat} (hn : Z.1.toNat = n) (hp0 : p0 < n) : ∀ (f : Nat), ∀ {d : Nat} (hd : 5 + f ≤ d) {μ : zMem} {last used : Nat} {r : List Nat} {B : Option (List Nat)}, MTx μ Z F A w → r.length + f = 7 → r ≠ [] → used = rgB r → used < 128 → pcN 8 used = r.length → r.getD 0 0 = p0 → r.getD (r.length - 1) 0 = last → last < 7 → (∀ i : Nat, i < r.length → μ 379 (i : Int) = ((r.getD i 0 : Nat) : Int)) → RgM B μ → zSp d 0 0 y_M_triesRing zT0 [vr 355, vi r.length, vi used] μ zT0 (fun q μ' => q = none ∧ RFr μ μ' ∧ (∀ i : Int, i < (r.length : Int) → μ' 379 i = μ 379 i) ∧ ∃ B', RgM B' μ' ∧ TrP (StR (eA A) n p0 last used r) B B') := by
  intro f
  induction f with
  | zero =>
    intro d hd μ last used r B hC h1 h2 h3 h4 h5 h6 h7 h8 h9 hB
    have hd1 := hC.d
    have hnz := hC.1.1
    have hl1 := List.length_pos_iff.mpr h2
    refine zSp.ss [vr 355, vi r.length, vi used, vx 0, vx 0] rfl (w_M_triesRing (Nat.le_trans (by omega) hd)) rfl rfl ?_
    (try simp only [zit_e, Bool.and_eq_true, Bool.or_eq_true, Bool.not_eq_true', Bool.and_eq_false_iff, Bool.or_eq_false_iff, Bool.not_eq_false', zbe, zdt, zdf, zb2_p, zbp_0, zbp_1, zbp_inj, zbp_01, Bool.true_eq_false, Bool.false_eq_true, true_and, and_true, Decidable.not_not, Classical.not_not, implies_true, List.nil_append, List.cons_append, List.append_assoc, Option.some.injEq, Sum.inl.injEq, zSw_c, zSw_n]); (try simp only [zit_e, Bool.and_eq_true, Bool.or_eq_true, Bool.not_eq_true', Bool.and_eq_false_iff, Bool.or_eq_false_iff, Bool.not_eq_false', zbe, zdt, zdf, zb2_p, zbp_0, zbp_1, zbp_inj, zbp_01, Bool.true_eq_false, Bool.false_eq_true, true_and, and_true, Decidable.not_not, Classical.not_not, implies_true, List.nil_append, List.cons_append, List.append_assoc, Option.some.injEq, Sum.inl.injEq, zSw_c, zSw_n, zc_355, f_M_owed, g_M_owed]); (try simp only [zi_cs, zi_c0, zii_cs, zii_c0, zl_cs, zl_c0, zll_cs, zll_c0, zr_cs, zr_c0, zrr_cs, zrr_c0, zxs_cs, zxs_c0, zxx_cs, zxx_c0, zfree_c0, zfree_c1, zfree_cs, zfree_cz, zlong_i, zlong_r, zlong_x, zset_0, zset_s, true_and, and_true, Option.some.injEq, Sum.inl.injEq, Sum.inr.injEq, zb2_p, zbp_0, zbp_1, zbp_inj, zbp_01, Nat.zero_add, Nat.reduceAdd, implies_true, List.nil_append, List.cons_append, List.append_assoc, Int.not_lt, Int.not_le, Decidable.not_not, Int.zero_add, Int.reduceLE, Int.reduceLT, Int.reduceEq, Int.reduceNe, Int.reduceAdd, Int.reduceSub, Int.reduceMul, Int.reduceNeg, Int.reduceToNat, Nat.reduceMul, Nat.reduceLT, Nat.reduceEqDiff, and_self, ite_true, ite_false, zx1, zx2, zRecv, List.length_cons, List.length_nil, ne_eq, not_true_eq_false, not_false_eq_true, true_or, or_true, or_false, false_or, and_false, false_and, zf01, zf10, reduceCtorEq, zSw_c, zSw_n, zm_r, zit_T, zit_F, false_implies, true_implies, zc_355, f_M_owed, g_M_owed])
    have e1 : μ 379 ((r.length : Int) - 1) = (last : Int) := by
      rw [show (r.length : Int) - 1 = ((r.length - 1 : Nat) : Int) by omega, h9 _ (by omega), h7]
    have e0 : μ 379 0 = (p0 : Int) := by
      have := h9 0 (by omega)
      rw [h6] at this
      exact this
    rw [e1, e0, hd1.1]
    have hup : 0 ≤ owL last p0 A.2.1 := (owA hC.2.1).1
    refine ⟨⟨zI_s (by omega) (by omega), by omega, by omega⟩, fun _ => hd1.2.2.2.1, ?_⟩
    refine zif (fun c => ?_) (fun c => ?_)
    · refine zLoop.up r.length (fun j ρ μ1 => ρ = [vr 355, vi r.length, vi used, vi last, vi j] ∧ (∀ i : Int, 0 ≤ i → i < j → μ1 380 i = μ 379 i) ∧ μ1 379 = μ 379 ∧ μ1 355 43 = (r.length : Int) ∧ μ1 355 44 = (used : Int) ∧ RFr μ μ1) ⟨rfl, fun i x y => by omega, by rw [zm_off _ (by decide), zm_off _ (by decide)], by rw [zm_o (by omega), zm_s], zm_s, (zfc.rf.zm (by decide)).zm (by decide), fun i q1 q2 => by rw [zm_o (Or.inr q2), zm_o (Or.inr q1)]⟩ ?_
      rintro j ρ μ1 hj ⟨rfl, hcp, hrow, h43, h44, hF1⟩
      (try simp only [zit_e, Bool.and_eq_true, Bool.or_eq_true, Bool.not_eq_true', Bool.and_eq_false_iff, Bool.or_eq_false_iff, Bool.not_eq_false', zbe, zdt, zdf, zb2_p, zbp_0, zbp_1, zbp_inj, zbp_01, Bool.true_eq_false, Bool.false_eq_true, true_and, and_true, Decidable.not_not, Classical.not_not, implies_true, List.nil_append, List.cons_append, List.append_assoc, Option.some.injEq, Sum.inl.injEq, zSw_c, zSw_n]); (try simp only [zit_e, Bool.and_eq_true, Bool.or_eq_true, Bool.not_eq_true', Bool.and_eq_false_iff, Bool.or_eq_false_iff, Bool.not_eq_false', zbe, zdt, zdf, zb2_p, zbp_0, zbp_1, zbp_inj, zbp_01, Bool.true_eq_false, Bool.false_eq_true, true_and, and_true, Decidable.not_not, Classical.not_not, implies_true, List.nil_append, List.cons_append, List.append_assoc, Option.some.injEq, Sum.inl.injEq, zSw_c, zSw_n, zc_355, f_M_owed, g_M_owed]); (try simp only [zi_cs, zi_c0, zii_cs, zii_c0, zl_cs, zl_c0, zll_cs, zll_c0, zr_cs, zr_c0, zrr_cs, zrr_c0, zxs_cs, zxs_c0, zxx_cs, zxx_c0, zfree_c0, zfree_c1, zfree_cs, zfree_cz, zlong_i, zlong_r, zlong_x, zset_0, zset_s, true_and, and_true, Option.some.injEq, Sum.inl.injEq, Sum.inr.injEq, zb2_p, zbp_0, zbp_1, zbp_inj, zbp_01, Nat.zero_add, Nat.reduceAdd, implies_true, List.nil_append, List.cons_append, List.append_assoc, Int.not_lt, Int.not_le, Decidable.not_not, Int.zero_add, Int.reduceLE, Int.reduceLT, Int.reduceEq, Int.reduceNe, Int.reduceAdd, Int.reduceSub, Int.reduceMul, Int.reduceNeg, Int.reduceToNat, Nat.reduceMul, Nat.reduceLT, Nat.reduceEqDiff, and_self, ite_true, ite_false, zx1, zx2, zRecv, List.length_cons, List.length_nil, ne_eq, not_true_eq_false, not_false_eq_true, true_or, or_true, or_false, false_or, and_false, false_and, zf01, zf10, reduceCtorEq, zSw_c, zSw_n, zm_r, zit_T, zit_F, false_implies, true_implies, zc_355, f_M_owed, g_M_owed])
      refine zif (fun c2 => ?_) (fun c2 => ?_)
      · refine ⟨by omega, by omega, by omega, zI_s (by omega) (by omega), r.length - (j + 1), by omega, j + 1, rfl, by omega, rfl, fun i x y => ?_, by rw [zm_off _ (by decide)]; exact hrow, h43, h44, hF1.1.zm (by decide), fun i q1 q2 => by rw [zm_o (by omega)]; exact hF1.2 i q1 q2⟩
        by_cases ei : i = j
        · rw [zit_t ei, hrow, ei]
        · rw [zit_f ei]
          exact hcp i x (by omega)
      · have ej0 : j = r.length := by omega
        subst ej0
        have hB1 : RgM (some r) μ1 := ⟨⟨h43, h2, by omega⟩, ⟨by rw [h44, h3], by omega⟩, fun i hi => by rw [hcp i (by omega) (by omega)]; exact h9 i hi⟩
        have hT1 : TrP (fun l => l = r ∧ eA A last p0 ∧ 2 ≤ l.length) B (some r) := by
          refine ⟨Or.inr ⟨r, rfl, ⟨rfl, c.1.2, by omega⟩, fun b hb => ?_, fun l' hl' _ => by rw [hl'.1]; exact lx_rf _⟩, fun l' hl' => ⟨r, rfl, by rw [hl'.1]; exact Nat.le_refl _⟩⟩
          subst hb
          obtain ⟨⟨q1, q2, q3⟩, ⟨q4, q5⟩, q6⟩ := hB
          have := List.length_pos_iff.mpr q2
          have c3 := c.2
          rw [q1, q4] at c3
          unfold kyL
          omega
        rw [hrow, e0]
        refine ⟨zI_s (by omega) (by omega), ?_⟩
        refine zLoop.up (n - (p0 + 1)) (fun j ρ μ2 => ρ = [vr 355, vi r.length, vi used, vi last, vi ((p0 : Int) + 1 + j)] ∧ RFr μ μ2 ∧ (∀ i : Int, i < (r.length : Int) → μ2 379 i = μ 379 i) ∧ ∃ B2, RgM B2 μ2 ∧ TrP (SjR (eA A) n p0 last used r (p0 + 1 + j)) B B2) ⟨by rw [Int.natCast_zero, Int.add_zero], hF1, fun i _ => by rw [hrow], some r, hB1, SjR_0 hT1⟩ ?_
        rintro j ρ μ2 hj ⟨rfl, hF2, hpre2, B2, hB2, hT2⟩
        have hC2 : MTx μ2 Z F A w := hC.k (hF2.1 357 (by decide))
        have hd2 := hC2.d
        have e62 := hC2.2.2.1.1
        (try simp only [zit_e, Bool.and_eq_true, Bool.or_eq_true, Bool.not_eq_true', Bool.and_eq_false_iff, Bool.or_eq_false_iff, Bool.not_eq_false', zbe, zdt, zdf, zb2_p, zbp_0, zbp_1, zbp_inj, zbp_01, Bool.true_eq_false, Bool.false_eq_true, true_and, and_true, Decidable.not_not, Classical.not_not, implies_true, List.nil_append, List.cons_append, List.append_assoc, Option.some.injEq, Sum.inl.injEq, zSw_c, zSw_n]); (try simp only [zit_e, Bool.and_eq_true, Bool.or_eq_true, Bool.not_eq_true', Bool.and_eq_false_iff, Bool.or_eq_false_iff, Bool.not_eq_false', zbe, zdt, zdf, zb2_p, zbp_0, zbp_1, zbp_inj, zbp_01, Bool.true_eq_false, Bool.false_eq_true, true_and, and_true, Decidable.not_not, Classical.not_not, implies_true, List.nil_append, List.cons_append, List.append_assoc, Option.some.injEq, Sum.inl.injEq, zSw_c, zSw_n, zc_355, f_M_owed, g_M_owed, f_M_people, g_M_people, f_M_isIn, g_M_isIn]); (try simp only [zi_cs, zi_c0, zii_cs, zii_c0, zl_cs, zl_c0, zll_cs, zll_c0, zr_cs, zr_c0, zrr_cs, zrr_c0, zxs_cs, zxs_c0, zxx_cs, zxx_c0, zfree_c0, zfree_c1, zfree_cs, zfree_cz, zlong_i, zlong_r, zlong_x, zset_0, zset_s, true_and, and_true, Option.some.injEq, Sum.inl.injEq, Sum.inr.injEq, zb2_p, zbp_0, zbp_1, zbp_inj, zbp_01, Nat.zero_add, Nat.reduceAdd, implies_true, List.nil_append, List.cons_append, List.append_assoc, Int.not_lt, Int.not_le, Decidable.not_not, Int.zero_add, Int.reduceLE, Int.reduceLT, Int.reduceEq, Int.reduceNe, Int.reduceAdd, Int.reduceSub, Int.reduceMul, Int.reduceNeg, Int.reduceToNat, Nat.reduceMul, Nat.reduceLT, Nat.reduceEqDiff, and_self, ite_true, ite_false, zx1, zx2, zRecv, List.length_cons, List.length_nil, ne_eq, not_true_eq_false, not_false_eq_true, true_or, or_true, or_false, false_or, and_false, false_and, zf01, zf10, reduceCtorEq, zSw_c, zSw_n, zm_r, zit_T, zit_F, false_implies, true_implies, zc_355, f_M_owed, g_M_owed, f_M_people, g_M_people, f_M_isIn, g_M_isIn])
        rw [e62]
        refine zif (fun c4 => ?_) (fun c4 => ?_)
        · have hq7 : p0 + 1 + j < n := by omega
          have eq : (p0 : Int) + 1 + j = ((p0 + 1 + j : Nat) : Int) := by omega
          rw [eq, hd2.1]
          generalize hqq : p0 + 1 + j = q at *
          have howl := (owA (a := last) (b := q) hC2.2.1).1
          refine ⟨⟨by omega, fun _ => hd2.2.2.2.1⟩, ?_⟩
          refine zif (fun c5 => ?_) (fun c5 => ?_)
          all_goals rw [zbp_0, Classical.not_not] at c5
          · refine ⟨zI_s (by omega) (by omega), n - (p0 + 1) - (j + 1), by omega, j + 1, rfl, by omega, by rw [← hqq, show ((p0 + 1 + j : Nat) : Int) + 1 = (p0 : Int) + 1 + ((j + 1 : Nat) : Int) by omega], hF2, hpre2, B2, hB2, ?_⟩
            rw [show p0 + 1 + (j + 1) = q + 1 by omega]
            refine SjR_k (fun z => ?_) hT2
            rcases c5 with c5 | c5
            · rw [zbit_n, z.1] at c5
              cases c5
            · have : 0 < owL last q A.2.1 := z.2
              omega
          · have hbq : used.testBit q = false := by
              cases z : used.testBit q with
              | false => rfl
              | true => exact absurd (Or.inl (zbit_n.mpr z)) c5
            have hEq : eA A last q := by
              show 0 < owL last q A.2.1
              have : ¬ owL last q A.2.1 = 0 := fun z => c5 (Or.inr z)
              omega
            have hz := zor_set (c := used) (i := q) (by omega) (by omega) (fun z => by rw [zbit_n, hbq] at z; cases z)
            rw [hz.1]
            have b8 := bit8 (c := used) (i := q) (by omega) (by omega) hbq
            have h27 : (2 : Nat) ^ 7 = 128 := by decide
            have hu3 : used + 2 ^ q < 2 ^ 7 := by
              rw [← b8.1]
              exact Nat.or_lt_two_pow (show used < 2 ^ 7 by omega) (Nat.pow_lt_pow_right (by decide) (by omega))
            have hpc7 := pc_le (n := 7) (c := used + 2 ^ q) (by decide) hu3
            omega
        · have ej : p0 + 1 + j = n := by omega
          rw [ej] at hT2
          exact ⟨hF2, hpre2, B2, hB2, SjR_n h2 hT2⟩
    · have hT1 : TrP (fun l => l = r ∧ eA A last p0 ∧ 2 ≤ l.length) B B := by
        refine ⟨Or.inl rfl, fun l' hl' => ?_⟩
        obtain ⟨rfl, g1, g2⟩ := hl'
        have c3 : ¬ ((μ 355 43 = 0 ∨ (l'.length : Int) < μ 355 43) ∨ (l'.length : Int) = μ 355 43 ∧ (used : Int) < μ 355 44) := fun z => c ⟨⟨by omega, g1⟩, z⟩
        cases B with
        | none => exact absurd (Or.inl (Or.inl hB)) c3
        | some b =>
          obtain ⟨⟨q1, q2, q3⟩, ⟨q4, q5⟩, q6⟩ := hB
          refine ⟨b, rfl, ?_⟩
          rw [q1, q4] at c3
          unfold kyL
          omega
      refine ⟨zI_s (by omega) (by omega), ?_⟩
      refine zLoop.up (n - (p0 + 1)) (fun j ρ μ2 => ρ = [vr 355, vi r.length, vi used, vi last, vi ((p0 : Int) + 1 + j)] ∧ RFr μ μ2 ∧ (∀ i : Int, i < (r.length : Int) → μ2 379 i = μ 379 i) ∧ ∃ B2, RgM B2 μ2 ∧ TrP (SjR (eA A) n p0 last used r (p0 + 1 + j)) B B2) ⟨by rw [Int.natCast_zero, Int.add_zero], RFr.rf, fun _ _ => rfl, B, hB, SjR_0 hT1⟩ ?_
      rintro j ρ μ2 hj ⟨rfl, hF2, hpre2, B2, hB2, hT2⟩
      have hC2 : MTx μ2 Z F A w := hC.k (hF2.1 357 (by decide))
      have hd2 := hC2.d
      have e62 := hC2.2.2.1.1
      (try simp only [zit_e, Bool.and_eq_true, Bool.or_eq_true, Bool.not_eq_true', Bool.and_eq_false_iff, Bool.or_eq_false_iff, Bool.not_eq_false', zbe, zdt, zdf, zb2_p, zbp_0, zbp_1, zbp_inj, zbp_01, Bool.true_eq_false, Bool.false_eq_true, true_and, and_true, Decidable.not_not, Classical.not_not, implies_true, List.nil_append, List.cons_append, List.append_assoc, Option.some.injEq, Sum.inl.injEq, zSw_c, zSw_n]); (try simp only [zit_e, Bool.and_eq_true, Bool.or_eq_true, Bool.not_eq_true', Bool.and_eq_false_iff, Bool.or_eq_false_iff, Bool.not_eq_false', zbe, zdt, zdf, zb2_p, zbp_0, zbp_1, zbp_inj, zbp_01, Bool.true_eq_false, Bool.false_eq_true, true_and, and_true, Decidable.not_not, Classical.not_not, implies_true, List.nil_append, List.cons_append, List.append_assoc, Option.some.injEq, Sum.inl.injEq, zSw_c, zSw_n, zc_355, f_M_owed, g_M_owed, f_M_people, g_M_people, f_M_isIn, g_M_isIn]); (try simp only [zi_cs, zi_c0, zii_cs, zii_c0, zl_cs, zl_c0, zll_cs, zll_c0, zr_cs, zr_c0, zrr_cs, zrr_c0, zxs_cs, zxs_c0, zxx_cs, zxx_c0, zfree_c0, zfree_c1, zfree_cs, zfree_cz, zlong_i, zlong_r, zlong_x, zset_0, zset_s, true_and, and_true, Option.some.injEq, Sum.inl.injEq, Sum.inr.injEq, zb2_p, zbp_0, zbp_1, zbp_inj, zbp_01, Nat.zero_add, Nat.reduceAdd, implies_true, List.nil_append, List.cons_append, List.append_assoc, Int.not_lt, Int.not_le, Decidable.not_not, Int.zero_add, Int.reduceLE, Int.reduceLT, Int.reduceEq, Int.reduceNe, Int.reduceAdd, Int.reduceSub, Int.reduceMul, Int.reduceNeg, Int.reduceToNat, Nat.reduceMul, Nat.reduceLT, Nat.reduceEqDiff, and_self, ite_true, ite_false, zx1, zx2, zRecv, List.length_cons, List.length_nil, ne_eq, not_true_eq_false, not_false_eq_true, true_or, or_true, or_false, false_or, and_false, false_and, zf01, zf10, reduceCtorEq, zSw_c, zSw_n, zm_r, zit_T, zit_F, false_implies, true_implies, zc_355, f_M_owed, g_M_owed, f_M_people, g_M_people, f_M_isIn, g_M_isIn])
      rw [e62]
      refine zif (fun c4 => ?_) (fun c4 => ?_)
      · have hq7 : p0 + 1 + j < n := by omega
        have eq : (p0 : Int) + 1 + j = ((p0 + 1 + j : Nat) : Int) := by omega
        rw [eq, hd2.1]
        generalize hqq : p0 + 1 + j = q at *
        have howl := (owA (a := last) (b := q) hC2.2.1).1
        refine ⟨⟨by omega, fun _ => hd2.2.2.2.1⟩, ?_⟩
        refine zif (fun c5 => ?_) (fun c5 => ?_)
        all_goals rw [zbp_0, Classical.not_not] at c5
        · refine ⟨zI_s (by omega) (by omega), n - (p0 + 1) - (j + 1), by omega, j + 1, rfl, by omega, by rw [← hqq, show ((p0 + 1 + j : Nat) : Int) + 1 = (p0 : Int) + 1 + ((j + 1 : Nat) : Int) by omega], hF2, hpre2, B2, hB2, ?_⟩
          rw [show p0 + 1 + (j + 1) = q + 1 by omega]
          refine SjR_k (fun z => ?_) hT2
          rcases c5 with c5 | c5
          · rw [zbit_n, z.1] at c5
            cases c5
          · have : 0 < owL last q A.2.1 := z.2
            omega
        · have hbq : used.testBit q = false := by
            cases z : used.testBit q with
            | false => rfl
            | true => exact absurd (Or.inl (zbit_n.mpr z)) c5
          have hEq : eA A last q := by
            show 0 < owL last q A.2.1
            have : ¬ owL last q A.2.1 = 0 := fun z => c5 (Or.inr z)
            omega
          have hz := zor_set (c := used) (i := q) (by omega) (by omega) (fun z => by rw [zbit_n, hbq] at z; cases z)
          rw [hz.1]
          have b8 := bit8 (c := used) (i := q) (by omega) (by omega) hbq
          have h27 : (2 : Nat) ^ 7 = 128 := by decide
          have hu3 : used + 2 ^ q < 2 ^ 7 := by
            rw [← b8.1]
            exact Nat.or_lt_two_pow (show used < 2 ^ 7 by omega) (Nat.pow_lt_pow_right (by decide) (by omega))
          have hpc7 := pc_le (n := 7) (c := used + 2 ^ q) (by decide) hu3
          omega
      · have ej : p0 + 1 + j = n := by omega
        rw [ej] at hT2
        exact ⟨hF2, hpre2, B2, hB2, SjR_n h2 hT2⟩
  | succ f ih =>
    intro d hd μ last used r B hC h1 h2 h3 h4 h5 h6 h7 h8 h9 hB
    have hd1 := hC.d
    have hnz := hC.1.1
    have hl1 := List.length_pos_iff.mpr h2
    refine zSp.ss [vr 355, vi r.length, vi used, vx 0, vx 0] rfl (w_M_triesRing (Nat.le_trans (by omega) hd)) rfl rfl ?_
    (try simp only [zit_e, Bool.and_eq_true, Bool.or_eq_true, Bool.not_eq_true', Bool.and_eq_false_iff, Bool.or_eq_false_iff, Bool.not_eq_false', zbe, zdt, zdf, zb2_p, zbp_0, zbp_1, zbp_inj, zbp_01, Bool.true_eq_false, Bool.false_eq_true, true_and, and_true, Decidable.not_not, Classical.not_not, implies_true, List.nil_append, List.cons_append, List.append_assoc, Option.some.injEq, Sum.inl.injEq, zSw_c, zSw_n]); (try simp only [zit_e, Bool.and_eq_true, Bool.or_eq_true, Bool.not_eq_true', Bool.and_eq_false_iff, Bool.or_eq_false_iff, Bool.not_eq_false', zbe, zdt, zdf, zb2_p, zbp_0, zbp_1, zbp_inj, zbp_01, Bool.true_eq_false, Bool.false_eq_true, true_and, and_true, Decidable.not_not, Classical.not_not, implies_true, List.nil_append, List.cons_append, List.append_assoc, Option.some.injEq, Sum.inl.injEq, zSw_c, zSw_n, zc_355, f_M_owed, g_M_owed]); (try simp only [zi_cs, zi_c0, zii_cs, zii_c0, zl_cs, zl_c0, zll_cs, zll_c0, zr_cs, zr_c0, zrr_cs, zrr_c0, zxs_cs, zxs_c0, zxx_cs, zxx_c0, zfree_c0, zfree_c1, zfree_cs, zfree_cz, zlong_i, zlong_r, zlong_x, zset_0, zset_s, true_and, and_true, Option.some.injEq, Sum.inl.injEq, Sum.inr.injEq, zb2_p, zbp_0, zbp_1, zbp_inj, zbp_01, Nat.zero_add, Nat.reduceAdd, implies_true, List.nil_append, List.cons_append, List.append_assoc, Int.not_lt, Int.not_le, Decidable.not_not, Int.zero_add, Int.reduceLE, Int.reduceLT, Int.reduceEq, Int.reduceNe, Int.reduceAdd, Int.reduceSub, Int.reduceMul, Int.reduceNeg, Int.reduceToNat, Nat.reduceMul, Nat.reduceLT, Nat.reduceEqDiff, and_self, ite_true, ite_false, zx1, zx2, zRecv, List.length_cons, List.length_nil, ne_eq, not_true_eq_false, not_false_eq_true, true_or, or_true, or_false, false_or, and_false, false_and, zf01, zf10, reduceCtorEq, zSw_c, zSw_n, zm_r, zit_T, zit_F, false_implies, true_implies, zc_355, f_M_owed, g_M_owed])
    have e1 : μ 379 ((r.length : Int) - 1) = (last : Int) := by
      rw [show (r.length : Int) - 1 = ((r.length - 1 : Nat) : Int) by omega, h9 _ (by omega), h7]
    have e0 : μ 379 0 = (p0 : Int) := by
      have := h9 0 (by omega)
      rw [h6] at this
      exact this
    rw [e1, e0, hd1.1]
    have hup : 0 ≤ owL last p0 A.2.1 := (owA hC.2.1).1
    refine ⟨⟨zI_s (by omega) (by omega), by omega, by omega⟩, fun _ => hd1.2.2.2.1, ?_⟩
    refine zif (fun c => ?_) (fun c => ?_)
    · refine zLoop.up r.length (fun j ρ μ1 => ρ = [vr 355, vi r.length, vi used, vi last, vi j] ∧ (∀ i : Int, 0 ≤ i → i < j → μ1 380 i = μ 379 i) ∧ μ1 379 = μ 379 ∧ μ1 355 43 = (r.length : Int) ∧ μ1 355 44 = (used : Int) ∧ RFr μ μ1) ⟨rfl, fun i x y => by omega, by rw [zm_off _ (by decide), zm_off _ (by decide)], by rw [zm_o (by omega), zm_s], zm_s, (zfc.rf.zm (by decide)).zm (by decide), fun i q1 q2 => by rw [zm_o (Or.inr q2), zm_o (Or.inr q1)]⟩ ?_
      rintro j ρ μ1 hj ⟨rfl, hcp, hrow, h43, h44, hF1⟩
      (try simp only [zit_e, Bool.and_eq_true, Bool.or_eq_true, Bool.not_eq_true', Bool.and_eq_false_iff, Bool.or_eq_false_iff, Bool.not_eq_false', zbe, zdt, zdf, zb2_p, zbp_0, zbp_1, zbp_inj, zbp_01, Bool.true_eq_false, Bool.false_eq_true, true_and, and_true, Decidable.not_not, Classical.not_not, implies_true, List.nil_append, List.cons_append, List.append_assoc, Option.some.injEq, Sum.inl.injEq, zSw_c, zSw_n]); (try simp only [zit_e, Bool.and_eq_true, Bool.or_eq_true, Bool.not_eq_true', Bool.and_eq_false_iff, Bool.or_eq_false_iff, Bool.not_eq_false', zbe, zdt, zdf, zb2_p, zbp_0, zbp_1, zbp_inj, zbp_01, Bool.true_eq_false, Bool.false_eq_true, true_and, and_true, Decidable.not_not, Classical.not_not, implies_true, List.nil_append, List.cons_append, List.append_assoc, Option.some.injEq, Sum.inl.injEq, zSw_c, zSw_n, zc_355, f_M_owed, g_M_owed]); (try simp only [zi_cs, zi_c0, zii_cs, zii_c0, zl_cs, zl_c0, zll_cs, zll_c0, zr_cs, zr_c0, zrr_cs, zrr_c0, zxs_cs, zxs_c0, zxx_cs, zxx_c0, zfree_c0, zfree_c1, zfree_cs, zfree_cz, zlong_i, zlong_r, zlong_x, zset_0, zset_s, true_and, and_true, Option.some.injEq, Sum.inl.injEq, Sum.inr.injEq, zb2_p, zbp_0, zbp_1, zbp_inj, zbp_01, Nat.zero_add, Nat.reduceAdd, implies_true, List.nil_append, List.cons_append, List.append_assoc, Int.not_lt, Int.not_le, Decidable.not_not, Int.zero_add, Int.reduceLE, Int.reduceLT, Int.reduceEq, Int.reduceNe, Int.reduceAdd, Int.reduceSub, Int.reduceMul, Int.reduceNeg, Int.reduceToNat, Nat.reduceMul, Nat.reduceLT, Nat.reduceEqDiff, and_self, ite_true, ite_false, zx1, zx2, zRecv, List.length_cons, List.length_nil, ne_eq, not_true_eq_false, not_false_eq_true, true_or, or_true, or_false, false_or, and_false, false_and, zf01, zf10, reduceCtorEq, zSw_c, zSw_n, zm_r, zit_T, zit_F, false_implies, true_implies, zc_355, f_M_owed, g_M_owed])
      refine zif (fun c2 => ?_) (fun c2 => ?_)
      · refine ⟨by omega, by omega, by omega, zI_s (by omega) (by omega), r.length - (j + 1), by omega, j + 1, rfl, by omega, rfl, fun i x y => ?_, by rw [zm_off _ (by decide)]; exact hrow, h43, h44, hF1.1.zm (by decide), fun i q1 q2 => by rw [zm_o (by omega)]; exact hF1.2 i q1 q2⟩
        by_cases ei : i = j
        · rw [zit_t ei, hrow, ei]
        · rw [zit_f ei]
          exact hcp i x (by omega)
      · have ej0 : j = r.length := by omega
        subst ej0
        have hB1 : RgM (some r) μ1 := ⟨⟨h43, h2, by omega⟩, ⟨by rw [h44, h3], by omega⟩, fun i hi => by rw [hcp i (by omega) (by omega)]; exact h9 i hi⟩
        have hT1 : TrP (fun l => l = r ∧ eA A last p0 ∧ 2 ≤ l.length) B (some r) := by
          refine ⟨Or.inr ⟨r, rfl, ⟨rfl, c.1.2, by omega⟩, fun b hb => ?_, fun l' hl' _ => by rw [hl'.1]; exact lx_rf _⟩, fun l' hl' => ⟨r, rfl, by rw [hl'.1]; exact Nat.le_refl _⟩⟩
          subst hb
          obtain ⟨⟨q1, q2, q3⟩, ⟨q4, q5⟩, q6⟩ := hB
          have := List.length_pos_iff.mpr q2
          have c3 := c.2
          rw [q1, q4] at c3
          unfold kyL
          omega
        rw [hrow, e0]
        refine ⟨zI_s (by omega) (by omega), ?_⟩
        refine zLoop.up (n - (p0 + 1)) (fun j ρ μ2 => ρ = [vr 355, vi r.length, vi used, vi last, vi ((p0 : Int) + 1 + j)] ∧ RFr μ μ2 ∧ (∀ i : Int, i < (r.length : Int) → μ2 379 i = μ 379 i) ∧ ∃ B2, RgM B2 μ2 ∧ TrP (SjR (eA A) n p0 last used r (p0 + 1 + j)) B B2) ⟨by rw [Int.natCast_zero, Int.add_zero], hF1, fun i _ => by rw [hrow], some r, hB1, SjR_0 hT1⟩ ?_
        rintro j ρ μ2 hj ⟨rfl, hF2, hpre2, B2, hB2, hT2⟩
        have hC2 : MTx μ2 Z F A w := hC.k (hF2.1 357 (by decide))
        have hd2 := hC2.d
        have e62 := hC2.2.2.1.1
        (try simp only [zit_e, Bool.and_eq_true, Bool.or_eq_true, Bool.not_eq_true', Bool.and_eq_false_iff, Bool.or_eq_false_iff, Bool.not_eq_false', zbe, zdt, zdf, zb2_p, zbp_0, zbp_1, zbp_inj, zbp_01, Bool.true_eq_false, Bool.false_eq_true, true_and, and_true, Decidable.not_not, Classical.not_not, implies_true, List.nil_append, List.cons_append, List.append_assoc, Option.some.injEq, Sum.inl.injEq, zSw_c, zSw_n]); (try simp only [zit_e, Bool.and_eq_true, Bool.or_eq_true, Bool.not_eq_true', Bool.and_eq_false_iff, Bool.or_eq_false_iff, Bool.not_eq_false', zbe, zdt, zdf, zb2_p, zbp_0, zbp_1, zbp_inj, zbp_01, Bool.true_eq_false, Bool.false_eq_true, true_and, and_true, Decidable.not_not, Classical.not_not, implies_true, List.nil_append, List.cons_append, List.append_assoc, Option.some.injEq, Sum.inl.injEq, zSw_c, zSw_n, zc_355, f_M_owed, g_M_owed, f_M_people, g_M_people, f_M_isIn, g_M_isIn]); (try simp only [zi_cs, zi_c0, zii_cs, zii_c0, zl_cs, zl_c0, zll_cs, zll_c0, zr_cs, zr_c0, zrr_cs, zrr_c0, zxs_cs, zxs_c0, zxx_cs, zxx_c0, zfree_c0, zfree_c1, zfree_cs, zfree_cz, zlong_i, zlong_r, zlong_x, zset_0, zset_s, true_and, and_true, Option.some.injEq, Sum.inl.injEq, Sum.inr.injEq, zb2_p, zbp_0, zbp_1, zbp_inj, zbp_01, Nat.zero_add, Nat.reduceAdd, implies_true, List.nil_append, List.cons_append, List.append_assoc, Int.not_lt, Int.not_le, Decidable.not_not, Int.zero_add, Int.reduceLE, Int.reduceLT, Int.reduceEq, Int.reduceNe, Int.reduceAdd, Int.reduceSub, Int.reduceMul, Int.reduceNeg, Int.reduceToNat, Nat.reduceMul, Nat.reduceLT, Nat.reduceEqDiff, and_self, ite_true, ite_false, zx1, zx2, zRecv, List.length_cons, List.length_nil, ne_eq, not_true_eq_false, not_false_eq_true, true_or, or_true, or_false, false_or, and_false, false_and, zf01, zf10, reduceCtorEq, zSw_c, zSw_n, zm_r, zit_T, zit_F, false_implies, true_implies, zc_355, f_M_owed, g_M_owed, f_M_people, g_M_people, f_M_isIn, g_M_isIn])
        rw [e62]
        refine zif (fun c4 => ?_) (fun c4 => ?_)
        · have hq7 : p0 + 1 + j < n := by omega
          have eq : (p0 : Int) + 1 + j = ((p0 + 1 + j : Nat) : Int) := by omega
          rw [eq, hd2.1]
          generalize hqq : p0 + 1 + j = q at *
          have howl := (owA (a := last) (b := q) hC2.2.1).1
          refine ⟨⟨by omega, fun _ => hd2.2.2.2.1⟩, ?_⟩
          refine zif (fun c5 => ?_) (fun c5 => ?_)
          all_goals rw [zbp_0, Classical.not_not] at c5
          · refine ⟨zI_s (by omega) (by omega), n - (p0 + 1) - (j + 1), by omega, j + 1, rfl, by omega, by rw [← hqq, show ((p0 + 1 + j : Nat) : Int) + 1 = (p0 : Int) + 1 + ((j + 1 : Nat) : Int) by omega], hF2, hpre2, B2, hB2, ?_⟩
            rw [show p0 + 1 + (j + 1) = q + 1 by omega]
            refine SjR_k (fun z => ?_) hT2
            rcases c5 with c5 | c5
            · rw [zbit_n, z.1] at c5
              cases c5
            · have : 0 < owL last q A.2.1 := z.2
              omega
          · have hbq : used.testBit q = false := by
              cases z : used.testBit q with
              | false => rfl
              | true => exact absurd (Or.inl (zbit_n.mpr z)) c5
            have hEq : eA A last q := by
              show 0 < owL last q A.2.1
              have : ¬ owL last q A.2.1 = 0 := fun z => c5 (Or.inr z)
              omega
            have hz := zor_set (c := used) (i := q) (by omega) (by omega) (fun z => by rw [zbit_n, hbq] at z; cases z)
            rw [hz.1]
            have b8 := bit8 (c := used) (i := q) (by omega) (by omega) hbq
            have h27 : (2 : Nat) ^ 7 = 128 := by decide
            have hu3 : used + 2 ^ q < 2 ^ 7 := by
              rw [← b8.1]
              exact Nat.or_lt_two_pow (show used < 2 ^ 7 by omega) (Nat.pow_lt_pow_right (by decide) (by omega))
            have hpc7 := pc_le (n := 7) (c := used + 2 ^ q) (by decide) hu3
            have hlen : (r ++ [q]).length = r.length + 1 := by rw [List.length_append, List.length_singleton]
            have hind := ih (d := 5 + f) (Nat.le_refl _) (μ := zm μ2 379 (r.length : Int) (q : Int)) (last := q) (used := used + 2 ^ q) (r := r ++ [q]) (B := B2) (hC2.k (by rw [zm_off _ (by decide)])) (by omega) (by simp) (by rw [rgB_app, ← h3]; show used + 2 ^ q = used + (2 ^ q + 0); omega) (by omega) (by rw [b8.2.1, h5, hlen]) (by rw [getD_app, if_pos (by have := List.length_pos_iff.mpr h2; omega)]; exact h6) (by rw [getD_app, hlen, if_neg (by omega), if_pos (by omega)]) (by omega) (fun i hi => by
              rw [hlen] at hi
              rw [getD_app]
              by_cases ei : i = r.length
              · rw [ei, zm_s, if_neg (by omega), if_pos rfl]
              · rw [zm_o (by omega), hpre2 i (by omega), if_pos (by omega)]
                exact h9 i (by omega)) (hB2.k (by (repeat rw [zm_o (by omega)])) (by (repeat rw [zm_o (by omega)])) (by rw [zm_off _ (by decide)]))
            rw [hlen] at hind
            refine ⟨by omega, by omega, zI_s (by omega) (by omega), zCw.use hind (by omega) (fun qq μ3 e => ?_)⟩
            obtain ⟨rfl, f1, f2, B3, f3, f4⟩ := e
            have hF3 : RFr μ μ3 := (hF2.tr ⟨zfc.rf.zm (by decide), fun i _ _ => by (repeat rw [zm_o (by omega)])⟩).tr f1
            refine ⟨rfl, zI_s (by omega) (by omega), n - (p0 + 1) - (j + 1), by omega, j + 1, rfl, by omega, by rw [← hqq, show ((p0 + 1 + j : Nat) : Int) + 1 = (p0 : Int) + 1 + ((j + 1 : Nat) : Int) by omega], hF3, fun i hi => ?_, B3, f3, ?_⟩
            · rw [f2 i (by omega), zm_o (by omega)]
              exact hpre2 i hi
            · rw [show p0 + 1 + (j + 1) = q + 1 by omega]
              exact SjR_s (by omega) h2 h3 h4 ⟨by omega, hq7, hbq, hEq⟩ hT2 f4
        · have ej : p0 + 1 + j = n := by omega
          rw [ej] at hT2
          exact ⟨hF2, hpre2, B2, hB2, SjR_n h2 hT2⟩
    · have hT1 : TrP (fun l => l = r ∧ eA A last p0 ∧ 2 ≤ l.length) B B := by
        refine ⟨Or.inl rfl, fun l' hl' => ?_⟩
        obtain ⟨rfl, g1, g2⟩ := hl'
        have c3 : ¬ ((μ 355 43 = 0 ∨ (l'.length : Int) < μ 355 43) ∨ (l'.length : Int) = μ 355 43 ∧ (used : Int) < μ 355 44) := fun z => c ⟨⟨by omega, g1⟩, z⟩
        cases B with
        | none => exact absurd (Or.inl (Or.inl hB)) c3
        | some b =>
          obtain ⟨⟨q1, q2, q3⟩, ⟨q4, q5⟩, q6⟩ := hB
          refine ⟨b, rfl, ?_⟩
          rw [q1, q4] at c3
          unfold kyL
          omega
      refine ⟨zI_s (by omega) (by omega), ?_⟩
      refine zLoop.up (n - (p0 + 1)) (fun j ρ μ2 => ρ = [vr 355, vi r.length, vi used, vi last, vi ((p0 : Int) + 1 + j)] ∧ RFr μ μ2 ∧ (∀ i : Int, i < (r.length : Int) → μ2 379 i = μ 379 i) ∧ ∃ B2, RgM B2 μ2 ∧ TrP (SjR (eA A) n p0 last used r (p0 + 1 + j)) B B2) ⟨by rw [Int.natCast_zero, Int.add_zero], RFr.rf, fun _ _ => rfl, B, hB, SjR_0 hT1⟩ ?_
      rintro j ρ μ2 hj ⟨rfl, hF2, hpre2, B2, hB2, hT2⟩
      have hC2 : MTx μ2 Z F A w := hC.k (hF2.1 357 (by decide))
      have hd2 := hC2.d
      have e62 := hC2.2.2.1.1
      (try simp only [zit_e, Bool.and_eq_true, Bool.or_eq_true, Bool.not_eq_true', Bool.and_eq_false_iff, Bool.or_eq_false_iff, Bool.not_eq_false', zbe, zdt, zdf, zb2_p, zbp_0, zbp_1, zbp_inj, zbp_01, Bool.true_eq_false, Bool.false_eq_true, true_and, and_true, Decidable.not_not, Classical.not_not, implies_true, List.nil_append, List.cons_append, List.append_assoc, Option.some.injEq, Sum.inl.injEq, zSw_c, zSw_n]); (try simp only [zit_e, Bool.and_eq_true, Bool.or_eq_true, Bool.not_eq_true', Bool.and_eq_false_iff, Bool.or_eq_false_iff, Bool.not_eq_false', zbe, zdt, zdf, zb2_p, zbp_0, zbp_1, zbp_inj, zbp_01, Bool.true_eq_false, Bool.false_eq_true, true_and, and_true, Decidable.not_not, Classical.not_not, implies_true, List.nil_append, List.cons_append, List.append_assoc, Option.some.injEq, Sum.inl.injEq, zSw_c, zSw_n, zc_355, f_M_owed, g_M_owed, f_M_people, g_M_people, f_M_isIn, g_M_isIn]); (try simp only [zi_cs, zi_c0, zii_cs, zii_c0, zl_cs, zl_c0, zll_cs, zll_c0, zr_cs, zr_c0, zrr_cs, zrr_c0, zxs_cs, zxs_c0, zxx_cs, zxx_c0, zfree_c0, zfree_c1, zfree_cs, zfree_cz, zlong_i, zlong_r, zlong_x, zset_0, zset_s, true_and, and_true, Option.some.injEq, Sum.inl.injEq, Sum.inr.injEq, zb2_p, zbp_0, zbp_1, zbp_inj, zbp_01, Nat.zero_add, Nat.reduceAdd, implies_true, List.nil_append, List.cons_append, List.append_assoc, Int.not_lt, Int.not_le, Decidable.not_not, Int.zero_add, Int.reduceLE, Int.reduceLT, Int.reduceEq, Int.reduceNe, Int.reduceAdd, Int.reduceSub, Int.reduceMul, Int.reduceNeg, Int.reduceToNat, Nat.reduceMul, Nat.reduceLT, Nat.reduceEqDiff, and_self, ite_true, ite_false, zx1, zx2, zRecv, List.length_cons, List.length_nil, ne_eq, not_true_eq_false, not_false_eq_true, true_or, or_true, or_false, false_or, and_false, false_and, zf01, zf10, reduceCtorEq, zSw_c, zSw_n, zm_r, zit_T, zit_F, false_implies, true_implies, zc_355, f_M_owed, g_M_owed, f_M_people, g_M_people, f_M_isIn, g_M_isIn])
      rw [e62]
      refine zif (fun c4 => ?_) (fun c4 => ?_)
      · have hq7 : p0 + 1 + j < n := by omega
        have eq : (p0 : Int) + 1 + j = ((p0 + 1 + j : Nat) : Int) := by omega
        rw [eq, hd2.1]
        generalize hqq : p0 + 1 + j = q at *
        have howl := (owA (a := last) (b := q) hC2.2.1).1
        refine ⟨⟨by omega, fun _ => hd2.2.2.2.1⟩, ?_⟩
        refine zif (fun c5 => ?_) (fun c5 => ?_)
        all_goals rw [zbp_0, Classical.not_not] at c5
        · refine ⟨zI_s (by omega) (by omega), n - (p0 + 1) - (j + 1), by omega, j + 1, rfl, by omega, by rw [← hqq, show ((p0 + 1 + j : Nat) : Int) + 1 = (p0 : Int) + 1 + ((j + 1 : Nat) : Int) by omega], hF2, hpre2, B2, hB2, ?_⟩
          rw [show p0 + 1 + (j + 1) = q + 1 by omega]
          refine SjR_k (fun z => ?_) hT2
          rcases c5 with c5 | c5
          · rw [zbit_n, z.1] at c5
            cases c5
          · have : 0 < owL last q A.2.1 := z.2
            omega
        · have hbq : used.testBit q = false := by
            cases z : used.testBit q with
            | false => rfl
            | true => exact absurd (Or.inl (zbit_n.mpr z)) c5
          have hEq : eA A last q := by
            show 0 < owL last q A.2.1
            have : ¬ owL last q A.2.1 = 0 := fun z => c5 (Or.inr z)
            omega
          have hz := zor_set (c := used) (i := q) (by omega) (by omega) (fun z => by rw [zbit_n, hbq] at z; cases z)
          rw [hz.1]
          have b8 := bit8 (c := used) (i := q) (by omega) (by omega) hbq
          have h27 : (2 : Nat) ^ 7 = 128 := by decide
          have hu3 : used + 2 ^ q < 2 ^ 7 := by
            rw [← b8.1]
            exact Nat.or_lt_two_pow (show used < 2 ^ 7 by omega) (Nat.pow_lt_pow_right (by decide) (by omega))
          have hpc7 := pc_le (n := 7) (c := used + 2 ^ q) (by decide) hu3
          have hlen : (r ++ [q]).length = r.length + 1 := by rw [List.length_append, List.length_singleton]
          have hind := ih (d := 5 + f) (Nat.le_refl _) (μ := zm μ2 379 (r.length : Int) (q : Int)) (last := q) (used := used + 2 ^ q) (r := r ++ [q]) (B := B2) (hC2.k (by rw [zm_off _ (by decide)])) (by omega) (by simp) (by rw [rgB_app, ← h3]; show used + 2 ^ q = used + (2 ^ q + 0); omega) (by omega) (by rw [b8.2.1, h5, hlen]) (by rw [getD_app, if_pos (by have := List.length_pos_iff.mpr h2; omega)]; exact h6) (by rw [getD_app, hlen, if_neg (by omega), if_pos (by omega)]) (by omega) (fun i hi => by
            rw [hlen] at hi
            rw [getD_app]
            by_cases ei : i = r.length
            · rw [ei, zm_s, if_neg (by omega), if_pos rfl]
            · rw [zm_o (by omega), hpre2 i (by omega), if_pos (by omega)]
              exact h9 i (by omega)) (hB2.k (by (repeat rw [zm_o (by omega)])) (by (repeat rw [zm_o (by omega)])) (by rw [zm_off _ (by decide)]))
          rw [hlen] at hind
          refine ⟨by omega, by omega, zI_s (by omega) (by omega), zCw.use hind (by omega) (fun qq μ3 e => ?_)⟩
          obtain ⟨rfl, f1, f2, B3, f3, f4⟩ := e
          have hF3 : RFr μ μ3 := (hF2.tr ⟨zfc.rf.zm (by decide), fun i _ _ => by (repeat rw [zm_o (by omega)])⟩).tr f1
          refine ⟨rfl, zI_s (by omega) (by omega), n - (p0 + 1) - (j + 1), by omega, j + 1, rfl, by omega, by rw [← hqq, show ((p0 + 1 + j : Nat) : Int) + 1 = (p0 : Int) + 1 + ((j + 1 : Nat) : Int) by omega], hF3, fun i hi => ?_, B3, f3, ?_⟩
          · rw [f2 i (by omega), zm_o (by omega)]
            exact hpre2 i hi
          · rw [show p0 + 1 + (j + 1) = q + 1 by omega]
            exact SjR_s (by omega) h2 h3 h4 ⟨by omega, hq7, hbq, hEq⟩ hT2 f4
      · have ej : p0 + 1 + j = n := by omega
        rw [ej] at hT2
        exact ⟨hF2, hpre2, B2, hB2, SjR_n h2 hT2⟩

