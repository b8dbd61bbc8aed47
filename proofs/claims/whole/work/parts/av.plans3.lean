/-! plans, the class: all rows -/
def FdC (μ μ' : zMem) (pl : Nat) (R : Option (List Nat)) : Prop := (μ 334 7 = 1 → μ' 334 7 = 1 ∧ ∀ i : Int, 0 ≤ i → i < 8 → μ' 342 i = μ 342 i) ∧ (μ 334 7 = 0 → (R = none → μ' 334 7 = 0) ∧ ∀ l, R = some l → μ' 334 7 = 1 ∧ (∀ i : Nat, i < pl → μ' 342 i = μ 337 i) ∧ ∀ i : Nat, i < l.length → μ' 342 ((pl + i : Nat) : Int) = ((l.getD i 0 : Nat) : Int))
theorem FdC.tr {a b c e : zMem} {pl j : Nat} {R S : Option (List Nat)} (h1 : FdC a b pl R) (hb : b 334 7 = 0 ∨ b 334 7 = 1) (h7 : c 334 7 = b 334 7) (h2 : ∀ i : Int, 0 ≤ i → i < 8 → c 342 i = b 342 i) (h3 : ∀ i : Nat, i < pl → c 337 i = a 337 i) (h4 : c 337 (pl : Int) = (j : Int)) (hR : ∀ l, R = some l → pl + l.length ≤ 8) (h5 : FdC c e (pl + 1) S) (ha : a 334 7 = 0 ∨ a 334 7 = 1) : FdC a e pl (oOr R (S.map (fun l => j :: l))) := by
  refine ⟨fun q => ?_, fun q => ⟨fun r => ?_, fun l r => ?_⟩⟩
  · obtain ⟨g1, g2⟩ := h1.1 q
    obtain ⟨g3, g4⟩ := h5.1 (h7.trans g1)
    exact ⟨g3, fun i i0 i1 => by rw [g4 i i0 i1, h2 i i0 i1, g2 i i0 i1]⟩
  · rcases R with _ | lr
    · rcases S with _ | ls
      · exact ((h5.2 (h7.trans ((h1.2 q).1 rfl))).1 rfl)
      · cases r
    · cases r
  · rcases R with _ | lr
    · rcases S with _ | ls
      · cases r
      · cases r
        obtain ⟨g1, g2, g3⟩ := (h5.2 (h7.trans ((h1.2 q).1 rfl))).2 _ rfl
        refine ⟨g1, fun i hi => by rw [g2 i (by omega), h3 i hi], fun i hi => ?_⟩
        rcases i with _ | i
        · rw [Nat.add_zero, g2 pl (by omega), h4]
          rfl
        · have := g3 i (by simpa using hi)
          rw [show pl + (i + 1) = pl + 1 + i by omega, this]
          rfl
    · cases r
      obtain ⟨g1, g2, g3⟩ := (h1.2 q).2 _ rfl
      obtain ⟨g4, g5⟩ := h5.1 (h7.trans g1)
      have hl := hR _ rfl
      exact ⟨g4, fun i hi => by rw [g5 i (by omega) (by omega), h2 i (by omega) (by omega), g2 i hi], fun i hi => by rw [g5 _ (by omega) (by omega), h2 _ (by omega) (by omega), g3 i hi]⟩
section ZPR
variable {Z : Zt} {F : Option (List Cls)} {A : Lg} {w : Int → Int} {V : List D4}
/-- what is known of sets -/
def MmC (Z : Zt) (F : Option (List Cls)) (A : Lg) (w : Int → Int) (V : List D4) (μ : zMem) : Prop := ∀ b : Nat, b < 256 → (μ 339 b = 0 ∨ μ 339 b = 1) ∧ (μ 339 b = 1 → μ 340 b = (plN Z F A w V (V.length - pcN 8 b) b (fun i => zit (zbit (b : Int) i) (μ 341 ((b : Int) * 8 + i)) 0)).1 ∧ (μ 340 b ≠ 0 → μ 334 7 = 1))
theorem MmC.c {μ μ' : zMem} (h : MmC Z F A w V μ) (h1 : μ' 339 = μ 339) (h2 : μ' 340 = μ 340) (h3 : μ' 341 = μ 341) (h4 : μ 334 7 = 1 → μ' 334 7 = 1) : MmC Z F A w V μ' := by
  intro b hb
  rw [h1, h2, h3]
  obtain ⟨g1, g2⟩ := h b hb
  exact ⟨g1, fun q => ⟨(g2 q).1, fun r => h4 ((g2 q).2 r)⟩⟩
def RbC (Z : Zt) (F : Option (List Cls)) (A : Lg) (w : Int → Int) (V : List D4) (used : Nat) (P : Int → Int) (pl : Nat) (μ : zMem) (R : Option (List Nat)) (μ' : zMem) : Prop := PlS A V (fun k => zbit (used : Int) k) P μ' ∧ MmC Z F A w V μ' ∧ FdC μ μ' pl R ∧ (∀ i : Nat, i < pl → μ' 337 i = μ 337 i) ∧ CPl w μ μ' ∧ (μ' 334 7 = 0 ∨ μ' 334 7 = 1)
theorem fl_Pl_57 : zFl "DebtDoors$Plan" 57 9 8 := ⟨_, rfl, by decide, (zTb_in 256 (by decide +kernel) (by decide +kernel)), rfl⟩
theorem m_Pl_keepFirst : Cond.instanceMethod y_Pl_keepFirst.1 ∈ zTb ∧ Cond.selects y_Pl_keepFirst.1.cls y_Pl_keepFirst.1 y_Pl_keepFirst.1 ∈ zTb ∧ Cond.initialized y_Pl_keepFirst.1.cls ∈ zTb ∧ Cond.code y_Pl_keepFirst.1 y_Pl_keepFirst.2.1 y_Pl_keepFirst.2.2.1 y_Pl_keepFirst.2.2.2 ∈ zTb ∧ (y_Pl_keepFirst.1.cls ≠ "java/lang/invoke/MethodHandle" ∧ y_Pl_keepFirst.1.cls ≠ "java/lang/invoke/VarHandle" ∧ (parseMethodDescriptor y_Pl_keepFirst.1.desc).map (fun d => d.parameters.length) = some 0) ∧ y_Pl_keepFirst.2.2.1 ≤ 20 :=
  ⟨(zTb_in 1144 (by decide +kernel) (by decide +kernel)), (List.mem_filter.mpr ⟨List.mem_append_left _ (by decide +kernel), by decide +kernel⟩), (zTb_in 147 (by decide +kernel) (by decide +kernel)), (zTb_in 1145 (by decide +kernel) (by decide +kernel)), by decide +kernel, by decide +kernel⟩
theorem lv_Pl_61 : zLv "DebtDoors$Plan" 61 y_Pl_keepFirst 0 5 := ⟨⟨(zTb_in 1142 (by decide +kernel) (by decide +kernel)), m_Pl_keepFirst.1, m_Pl_keepFirst.2.1, m_Pl_keepFirst.2.2⟩, _, rfl, rfl⟩
theorem nk_5_4 : zNk 5 4 = none := rfl
theorem m_Pl_paidAsKnown : Cond.instanceMethod y_Pl_paidAsKnown.1 ∈ zTb ∧ Cond.selects y_Pl_paidAsKnown.1.cls y_Pl_paidAsKnown.1 y_Pl_paidAsKnown.1 ∈ zTb ∧ Cond.initialized y_Pl_paidAsKnown.1.cls ∈ zTb ∧ Cond.code y_Pl_paidAsKnown.1 y_Pl_paidAsKnown.2.1 y_Pl_paidAsKnown.2.2.1 y_Pl_paidAsKnown.2.2.2 ∈ zTb ∧ (y_Pl_paidAsKnown.1.cls ≠ "java/lang/invoke/MethodHandle" ∧ y_Pl_paidAsKnown.1.cls ≠ "java/lang/invoke/VarHandle" ∧ (parseMethodDescriptor y_Pl_paidAsKnown.1.desc).map (fun d => d.parameters.length) = some 1) ∧ y_Pl_paidAsKnown.2.2.1 ≤ 20 :=
  ⟨(zTb_in 1149 (by decide +kernel) (by decide +kernel)), (List.mem_filter.mpr ⟨List.mem_append_left _ (by decide +kernel), by decide +kernel⟩), (zTb_in 147 (by decide +kernel) (by decide +kernel)), (zTb_in 1150 (by decide +kernel) (by decide +kernel)), by decide +kernel, by decide +kernel⟩
theorem lv_Pl_64 : zLv "DebtDoors$Plan" 64 y_Pl_paidAsKnown 1 5 := ⟨⟨(zTb_in 1147 (by decide +kernel) (by decide +kernel)), m_Pl_paidAsKnown.1, m_Pl_paidAsKnown.2.1, m_Pl_paidAsKnown.2.2⟩, _, rfl, rfl⟩
theorem nk_5_5 : zNk 5 5 = none := rfl
theorem m_Pl_getsIn : Cond.instanceMethod y_Pl_getsIn.1 ∈ zTb ∧ Cond.selects y_Pl_getsIn.1.cls y_Pl_getsIn.1 y_Pl_getsIn.1 ∈ zTb ∧ Cond.initialized y_Pl_getsIn.1.cls ∈ zTb ∧ Cond.code y_Pl_getsIn.1 y_Pl_getsIn.2.1 y_Pl_getsIn.2.2.1 y_Pl_getsIn.2.2.2 ∈ zTb ∧ (y_Pl_getsIn.1.cls ≠ "java/lang/invoke/MethodHandle" ∧ y_Pl_getsIn.1.cls ≠ "java/lang/invoke/VarHandle" ∧ (parseMethodDescriptor y_Pl_getsIn.1.desc).map (fun d => d.parameters.length) = some 3) ∧ y_Pl_getsIn.2.2.1 ≤ 20 :=
  ⟨(zTb_in 1153 (by decide +kernel) (by decide +kernel)), (List.mem_filter.mpr ⟨List.mem_append_left _ (by decide +kernel), by decide +kernel⟩), (zTb_in 147 (by decide +kernel) (by decide +kernel)), (zTb_in 1154 (by decide +kernel) (by decide +kernel)), by decide +kernel, by decide +kernel⟩
theorem lv_Pl_72 : zLv "DebtDoors$Plan" 72 y_Pl_getsIn 3 5 := ⟨⟨(zTb_in 1151 (by decide +kernel) (by decide +kernel)), m_Pl_getsIn.1, m_Pl_getsIn.2.1, m_Pl_getsIn.2.2⟩, _, rfl, rfl⟩
theorem fl_Pl_68 : zFl "DebtDoors$Plan" 68 9 3 := ⟨_, rfl, by decide, (zTb_in 240 (by decide +kernel) (by decide +kernel)), rfl⟩
theorem m_Pl_settle : Cond.instanceMethod y_Pl_settle.1 ∈ zTb ∧ Cond.selects y_Pl_settle.1.cls y_Pl_settle.1 y_Pl_settle.1 ∈ zTb ∧ Cond.initialized y_Pl_settle.1.cls ∈ zTb ∧ Cond.code y_Pl_settle.1 y_Pl_settle.2.1 y_Pl_settle.2.2.1 y_Pl_settle.2.2.2 ∈ zTb ∧ (y_Pl_settle.1.cls ≠ "java/lang/invoke/MethodHandle" ∧ y_Pl_settle.1.cls ≠ "java/lang/invoke/VarHandle" ∧ (parseMethodDescriptor y_Pl_settle.1.desc).map (fun d => d.parameters.length) = some 2) ∧ y_Pl_settle.2.2.1 ≤ 20 :=
  ⟨(zTb_in 1158 (by decide +kernel) (by decide +kernel)), (List.mem_filter.mpr ⟨List.mem_append_left _ (by decide +kernel), by decide +kernel⟩), (zTb_in 147 (by decide +kernel) (by decide +kernel)), (zTb_in 1159 (by decide +kernel) (by decide +kernel)), by decide +kernel, by decide +kernel⟩
theorem lv_Pl_76 : zLv "DebtDoors$Plan" 76 y_Pl_settle 2 5 := ⟨⟨(zTb_in 1156 (by decide +kernel) (by decide +kernel)), m_Pl_settle.1, m_Pl_settle.2.1, m_Pl_settle.2.2⟩, _, rfl, rfl⟩
def y_Pl_rowsBehind : zMt := (⟨"DebtDoors$Plan", "rowsBehind", "(LDebtDoors$Town;LDebtDoors$Rules;II)I"⟩, prog_7_method_3_code, 7, some .int)
theorem m_Pl_rowsBehind : Cond.instanceMethod y_Pl_rowsBehind.1 ∈ zTb ∧ Cond.selects y_Pl_rowsBehind.1.cls y_Pl_rowsBehind.1 y_Pl_rowsBehind.1 ∈ zTb ∧ Cond.initialized y_Pl_rowsBehind.1.cls ∈ zTb ∧ Cond.code y_Pl_rowsBehind.1 y_Pl_rowsBehind.2.1 y_Pl_rowsBehind.2.2.1 y_Pl_rowsBehind.2.2.2 ∈ zTb ∧ (y_Pl_rowsBehind.1.cls ≠ "java/lang/invoke/MethodHandle" ∧ y_Pl_rowsBehind.1.cls ≠ "java/lang/invoke/VarHandle" ∧ (parseMethodDescriptor y_Pl_rowsBehind.1.desc).map (fun d => d.parameters.length) = some 4) ∧ y_Pl_rowsBehind.2.2.1 ≤ 20 :=
  ⟨(zTb_in 1140 (by decide +kernel) (by decide +kernel)), (List.mem_filter.mpr ⟨List.mem_append_left _ (by decide +kernel), by decide +kernel⟩), (zTb_in 147 (by decide +kernel) (by decide +kernel)), (zTb_in 1141 (by decide +kernel) (by decide +kernel)), by decide +kernel, by decide +kernel⟩
theorem lv_Pl_53 : zLv "DebtDoors$Plan" 53 y_Pl_rowsBehind 4 5 := ⟨⟨(zTb_in 1138 (by decide +kernel) (by decide +kernel)), m_Pl_rowsBehind.1, m_Pl_rowsBehind.2.1, m_Pl_rowsBehind.2.2⟩, _, rfl, rfl⟩
theorem m_Pl_unsettle : Cond.instanceMethod y_Pl_unsettle.1 ∈ zTb ∧ Cond.selects y_Pl_unsettle.1.cls y_Pl_unsettle.1 y_Pl_unsettle.1 ∈ zTb ∧ Cond.initialized y_Pl_unsettle.1.cls ∈ zTb ∧ Cond.code y_Pl_unsettle.1 y_Pl_unsettle.2.1 y_Pl_unsettle.2.2.1 y_Pl_unsettle.2.2.2 ∈ zTb ∧ (y_Pl_unsettle.1.cls ≠ "java/lang/invoke/MethodHandle" ∧ y_Pl_unsettle.1.cls ≠ "java/lang/invoke/VarHandle" ∧ (parseMethodDescriptor y_Pl_unsettle.1.desc).map (fun d => d.parameters.length) = some 2) ∧ y_Pl_unsettle.2.2.1 ≤ 20 :=
  ⟨(zTb_in 1167 (by decide +kernel) (by decide +kernel)), (List.mem_filter.mpr ⟨List.mem_append_left _ (by decide +kernel), by decide +kernel⟩), (zTb_in 147 (by decide +kernel) (by decide +kernel)), (zTb_in 1168 (by decide +kernel) (by decide +kernel)), by decide +kernel, by decide +kernel⟩
theorem lv_Pl_80 : zLv "DebtDoors$Plan" 80 y_Pl_unsettle 2 5 := ⟨⟨(zTb_in 1165 (by decide +kernel) (by decide +kernel)), m_Pl_unsettle.1, m_Pl_unsettle.2.1, m_Pl_unsettle.2.2⟩, _, rfl, rfl⟩
theorem d_Pl_rowsBehind_0 : decode prog_7_method_3_code 0 = .ok (.iload 4, 2) := by decide +kernel
theorem d_Pl_rowsBehind_2 : decode prog_7_method_3_code 2 = .ok (.aload_n 1, 1) := by decide +kernel
theorem d_Pl_rowsBehind_3 : decode prog_7_method_3_code 3 = .ok (.getfield 57, 3) := by decide +kernel
theorem d_Pl_rowsBehind_6 : decode prog_7_method_3_code 6 = .ok (.if_icmp .ge 10, 3) := by decide +kernel
theorem d_Pl_rowsBehind_9 : decode prog_7_method_3_code 9 = .ok (.iload 4, 2) := by decide +kernel
theorem d_Pl_rowsBehind_11 : decode prog_7_method_3_code 11 = .ok (.bipush 8, 2) := by decide +kernel
theorem d_Pl_rowsBehind_13 : decode prog_7_method_3_code 13 = .ok (.if_icmp .lt 9, 3) := by decide +kernel
theorem d_Pl_rowsBehind_16 : decode prog_7_method_3_code 16 = .ok (.aload_n 0, 1) := by decide +kernel
theorem d_Pl_rowsBehind_17 : decode prog_7_method_3_code 17 = .ok (.invokevirtual 61, 3) := by decide +kernel
theorem d_Pl_rowsBehind_20 : decode prog_7_method_3_code 20 = .ok (.iconst 1, 1) := by decide +kernel
theorem d_Pl_rowsBehind_21 : decode prog_7_method_3_code 21 = .ok (.ireturn, 1) := by decide +kernel
theorem d_Pl_rowsBehind_22 : decode prog_7_method_3_code 22 = .ok (.aload_n 0, 1) := by decide +kernel
theorem d_Pl_rowsBehind_23 : decode prog_7_method_3_code 23 = .ok (.getfield 24, 3) := by decide +kernel
theorem d_Pl_rowsBehind_26 : decode prog_7_method_3_code 26 = .ok (.iload_n 3, 1) := by decide +kernel
theorem d_Pl_rowsBehind_27 : decode prog_7_method_3_code 27 = .ok (.baload, 1) := by decide +kernel
theorem d_Pl_rowsBehind_28 : decode prog_7_method_3_code 28 = .ok (.ifCond .eq 18, 3) := by decide +kernel
theorem d_Pl_rowsBehind_31 : decode prog_7_method_3_code 31 = .ok (.aload_n 0, 1) := by decide +kernel
theorem d_Pl_rowsBehind_32 : decode prog_7_method_3_code 32 = .ok (.iload_n 3, 1) := by decide +kernel
theorem d_Pl_rowsBehind_33 : decode prog_7_method_3_code 33 = .ok (.invokevirtual 64, 3) := by decide +kernel
theorem d_Pl_rowsBehind_36 : decode prog_7_method_3_code 36 = .ok (.ifCond .eq 10, 3) := by decide +kernel
theorem d_Pl_rowsBehind_39 : decode prog_7_method_3_code 39 = .ok (.aload_n 0, 1) := by decide +kernel
theorem d_Pl_rowsBehind_40 : decode prog_7_method_3_code 40 = .ok (.getfield 28, 3) := by decide +kernel
theorem d_Pl_rowsBehind_43 : decode prog_7_method_3_code 43 = .ok (.iload_n 3, 1) := by decide +kernel
theorem d_Pl_rowsBehind_44 : decode prog_7_method_3_code 44 = .ok (.iaload, 1) := by decide +kernel
theorem d_Pl_rowsBehind_45 : decode prog_7_method_3_code 45 = .ok (.ireturn, 1) := by decide +kernel
theorem d_Pl_rowsBehind_46 : decode prog_7_method_3_code 46 = .ok (.iconst 0, 1) := by decide +kernel
theorem d_Pl_rowsBehind_47 : decode prog_7_method_3_code 47 = .ok (.istore 5, 2) := by decide +kernel
theorem d_Pl_rowsBehind_49 : decode prog_7_method_3_code 49 = .ok (.iconst 0, 1) := by decide +kernel
theorem d_Pl_rowsBehind_50 : decode prog_7_method_3_code 50 = .ok (.istore 6, 2) := by decide +kernel
theorem d_Pl_rowsBehind_52 : decode prog_7_method_3_code 52 = .ok (.iload 6, 2) := by decide +kernel
theorem d_Pl_rowsBehind_54 : decode prog_7_method_3_code 54 = .ok (.aload_n 1, 1) := by decide +kernel
theorem d_Pl_rowsBehind_55 : decode prog_7_method_3_code 55 = .ok (.getfield 57, 3) := by decide +kernel
theorem d_Pl_rowsBehind_58 : decode prog_7_method_3_code 58 = .ok (.if_icmp .ge 93, 3) := by decide +kernel
theorem d_Pl_rowsBehind_61 : decode prog_7_method_3_code 61 = .ok (.iload_n 3, 1) := by decide +kernel
theorem d_Pl_rowsBehind_62 : decode prog_7_method_3_code 62 = .ok (.iload 6, 2) := by decide +kernel
theorem d_Pl_rowsBehind_64 : decode prog_7_method_3_code 64 = .ok (.ishr, 1) := by decide +kernel
theorem d_Pl_rowsBehind_65 : decode prog_7_method_3_code 65 = .ok (.iconst 1, 1) := by decide +kernel
theorem d_Pl_rowsBehind_66 : decode prog_7_method_3_code 66 = .ok (.iand, 1) := by decide +kernel
theorem d_Pl_rowsBehind_67 : decode prog_7_method_3_code 67 = .ok (.ifCond .ne 78, 3) := by decide +kernel
theorem d_Pl_rowsBehind_70 : decode prog_7_method_3_code 70 = .ok (.aload_n 0, 1) := by decide +kernel
theorem d_Pl_rowsBehind_71 : decode prog_7_method_3_code 71 = .ok (.aload_n 1, 1) := by decide +kernel
theorem d_Pl_rowsBehind_72 : decode prog_7_method_3_code 72 = .ok (.aload_n 2, 1) := by decide +kernel
theorem d_Pl_rowsBehind_73 : decode prog_7_method_3_code 73 = .ok (.aload_n 1, 1) := by decide +kernel
theorem d_Pl_rowsBehind_74 : decode prog_7_method_3_code 74 = .ok (.getfield 68, 3) := by decide +kernel
theorem d_Pl_rowsBehind_77 : decode prog_7_method_3_code 77 = .ok (.iload 6, 2) := by decide +kernel
theorem d_Pl_rowsBehind_79 : decode prog_7_method_3_code 79 = .ok (.aaload, 1) := by decide +kernel
theorem d_Pl_rowsBehind_80 : decode prog_7_method_3_code 80 = .ok (.invokevirtual 72, 3) := by decide +kernel
theorem d_Pl_rowsBehind_83 : decode prog_7_method_3_code 83 = .ok (.ifCond .ne 6, 3) := by decide +kernel
theorem d_Pl_rowsBehind_86 : decode prog_7_method_3_code 86 = .ok (.goto 59, 3) := by decide +kernel
theorem d_Pl_rowsBehind_89 : decode prog_7_method_3_code 89 = .ok (.aload_n 0, 1) := by decide +kernel
theorem d_Pl_rowsBehind_90 : decode prog_7_method_3_code 90 = .ok (.getfield 18, 3) := by decide +kernel
theorem d_Pl_rowsBehind_93 : decode prog_7_method_3_code 93 = .ok (.iload 4, 2) := by decide +kernel
theorem d_Pl_rowsBehind_95 : decode prog_7_method_3_code 95 = .ok (.iload 6, 2) := by decide +kernel
theorem d_Pl_rowsBehind_97 : decode prog_7_method_3_code 97 = .ok (.iastore, 1) := by decide +kernel
theorem d_Pl_rowsBehind_98 : decode prog_7_method_3_code 98 = .ok (.aload_n 0, 1) := by decide +kernel
theorem d_Pl_rowsBehind_99 : decode prog_7_method_3_code 99 = .ok (.aload_n 1, 1) := by decide +kernel
theorem d_Pl_rowsBehind_100 : decode prog_7_method_3_code 100 = .ok (.getfield 68, 3) := by decide +kernel
theorem d_Pl_rowsBehind_103 : decode prog_7_method_3_code 103 = .ok (.iload 6, 2) := by decide +kernel
theorem d_Pl_rowsBehind_105 : decode prog_7_method_3_code 105 = .ok (.aaload, 1) := by decide +kernel
theorem d_Pl_rowsBehind_106 : decode prog_7_method_3_code 106 = .ok (.iload 6, 2) := by decide +kernel
theorem d_Pl_rowsBehind_108 : decode prog_7_method_3_code 108 = .ok (.invokevirtual 76, 3) := by decide +kernel
theorem d_Pl_rowsBehind_111 : decode prog_7_method_3_code 111 = .ok (.iload 5, 2) := by decide +kernel
theorem d_Pl_rowsBehind_113 : decode prog_7_method_3_code 113 = .ok (.aload_n 0, 1) := by decide +kernel
theorem d_Pl_rowsBehind_114 : decode prog_7_method_3_code 114 = .ok (.aload_n 1, 1) := by decide +kernel
theorem d_Pl_rowsBehind_115 : decode prog_7_method_3_code 115 = .ok (.aload_n 2, 1) := by decide +kernel
theorem d_Pl_rowsBehind_116 : decode prog_7_method_3_code 116 = .ok (.iload_n 3, 1) := by decide +kernel
theorem d_Pl_rowsBehind_117 : decode prog_7_method_3_code 117 = .ok (.iconst 1, 1) := by decide +kernel
theorem d_Pl_rowsBehind_118 : decode prog_7_method_3_code 118 = .ok (.iload 6, 2) := by decide +kernel
theorem d_Pl_rowsBehind_120 : decode prog_7_method_3_code 120 = .ok (.ishl, 1) := by decide +kernel
theorem d_Pl_rowsBehind_121 : decode prog_7_method_3_code 121 = .ok (.ior, 1) := by decide +kernel
theorem d_Pl_rowsBehind_122 : decode prog_7_method_3_code 122 = .ok (.iload 4, 2) := by decide +kernel
theorem d_Pl_rowsBehind_124 : decode prog_7_method_3_code 124 = .ok (.iconst 1, 1) := by decide +kernel
theorem d_Pl_rowsBehind_125 : decode prog_7_method_3_code 125 = .ok (.iadd, 1) := by decide +kernel
theorem d_Pl_rowsBehind_126 : decode prog_7_method_3_code 126 = .ok (.invokevirtual 53, 3) := by decide +kernel
theorem d_Pl_rowsBehind_129 : decode prog_7_method_3_code 129 = .ok (.iadd, 1) := by decide +kernel
theorem d_Pl_rowsBehind_130 : decode prog_7_method_3_code 130 = .ok (.istore 5, 2) := by decide +kernel
theorem d_Pl_rowsBehind_132 : decode prog_7_method_3_code 132 = .ok (.aload_n 0, 1) := by decide +kernel
theorem d_Pl_rowsBehind_133 : decode prog_7_method_3_code 133 = .ok (.aload_n 1, 1) := by decide +kernel
theorem d_Pl_rowsBehind_134 : decode prog_7_method_3_code 134 = .ok (.getfield 68, 3) := by decide +kernel
theorem d_Pl_rowsBehind_137 : decode prog_7_method_3_code 137 = .ok (.iload 6, 2) := by decide +kernel
theorem d_Pl_rowsBehind_139 : decode prog_7_method_3_code 139 = .ok (.aaload, 1) := by decide +kernel
theorem d_Pl_rowsBehind_140 : decode prog_7_method_3_code 140 = .ok (.iload 6, 2) := by decide +kernel
theorem d_Pl_rowsBehind_142 : decode prog_7_method_3_code 142 = .ok (.invokevirtual 80, 3) := by decide +kernel
theorem d_Pl_rowsBehind_145 : decode prog_7_method_3_code 145 = .ok (.iinc 6 1, 3) := by decide +kernel
theorem d_Pl_rowsBehind_148 : decode prog_7_method_3_code 148 = .ok (.goto (-96), 3) := by decide +kernel
theorem d_Pl_rowsBehind_151 : decode prog_7_method_3_code 151 = .ok (.aload_n 0, 1) := by decide +kernel
theorem d_Pl_rowsBehind_152 : decode prog_7_method_3_code 152 = .ok (.getfield 24, 3) := by decide +kernel
theorem d_Pl_rowsBehind_155 : decode prog_7_method_3_code 155 = .ok (.iload_n 3, 1) := by decide +kernel
theorem d_Pl_rowsBehind_156 : decode prog_7_method_3_code 156 = .ok (.iconst 1, 1) := by decide +kernel
theorem d_Pl_rowsBehind_157 : decode prog_7_method_3_code 157 = .ok (.bastore, 1) := by decide +kernel
theorem d_Pl_rowsBehind_158 : decode prog_7_method_3_code 158 = .ok (.aload_n 0, 1) := by decide +kernel
theorem d_Pl_rowsBehind_159 : decode prog_7_method_3_code 159 = .ok (.getfield 28, 3) := by decide +kernel
theorem d_Pl_rowsBehind_162 : decode prog_7_method_3_code 162 = .ok (.iload_n 3, 1) := by decide +kernel
theorem d_Pl_rowsBehind_163 : decode prog_7_method_3_code 163 = .ok (.iload 5, 2) := by decide +kernel
theorem d_Pl_rowsBehind_165 : decode prog_7_method_3_code 165 = .ok (.iastore, 1) := by decide +kernel
theorem d_Pl_rowsBehind_166 : decode prog_7_method_3_code 166 = .ok (.aload_n 0, 1) := by decide +kernel
theorem d_Pl_rowsBehind_167 : decode prog_7_method_3_code 167 = .ok (.getfield 21, 3) := by decide +kernel
theorem d_Pl_rowsBehind_170 : decode prog_7_method_3_code 170 = .ok (.iconst 0, 1) := by decide +kernel
theorem d_Pl_rowsBehind_171 : decode prog_7_method_3_code 171 = .ok (.aload_n 0, 1) := by decide +kernel
theorem d_Pl_rowsBehind_172 : decode prog_7_method_3_code 172 = .ok (.getfield 31, 3) := by decide +kernel
theorem d_Pl_rowsBehind_175 : decode prog_7_method_3_code 175 = .ok (.iload_n 3, 1) := by decide +kernel
theorem d_Pl_rowsBehind_176 : decode prog_7_method_3_code 176 = .ok (.bipush 8, 2) := by decide +kernel
theorem d_Pl_rowsBehind_178 : decode prog_7_method_3_code 178 = .ok (.imul, 1) := by decide +kernel
theorem d_Pl_rowsBehind_179 : decode prog_7_method_3_code 179 = .ok (.bipush 8, 2) := by decide +kernel
theorem d_Pl_rowsBehind_181 : decode prog_7_method_3_code 181 = .ok (.invokestatic 83, 3) := by decide +kernel
theorem d_Pl_rowsBehind_184 : decode prog_7_method_3_code 184 = .ok (.iload 5, 2) := by decide +kernel
theorem d_Pl_rowsBehind_186 : decode prog_7_method_3_code 186 = .ok (.ireturn, 1) := by decide +kernel
def w_Pl_rowsBehind {d : Nat} (hd : 3 ≤ d) := (show SS ("DebtDoors$Plan", prog_7_method_3_code, 7) (some .int) d 0 0 0 0 _ from (sS (p1 := 22) (sIf (pn := 22) (tt := 16) (xC (rOr (mm := 9) (rJ2 (tgt := 16) j_ge (rIl d_Pl_rowsBehind_0) (rF 8 fl_Pl_57 nk_9_8 (rAn 1 d_Pl_rowsBehind_2 rfl) d_Pl_rowsBehind_3 rfl) d_Pl_rowsBehind_6 (by decide)) (rNot (rJ2 (tgt := 22) j_lt (rIl d_Pl_rowsBehind_9) (rB d_Pl_rowsBehind_11 rfl) d_Pl_rowsBehind_13 (by decide))))) (sS (p1 := 20) (sV (xVv lv_Pl_61 (xA (rAr rA0 (rAn 0 d_Pl_rowsBehind_16 rfl))) (by decide) d_Pl_rowsBehind_17)) (sRi (xE (rI d_Pl_rowsBehind_20 rfl)) d_Pl_rowsBehind_21 rfl))) (sS (p1 := 46) (sIf (pn := 46) (tt := 39) (xC (rAnd (mm := 31) (rNot (rJ1 (tgt := 46) k_eq (rZa (rFr fl_Pl_24 nk_5_4 (rAn 0 d_Pl_rowsBehind_22 rfl) d_Pl_rowsBehind_23) (rIn 3 d_Pl_rowsBehind_26 rfl) d_Pl_rowsBehind_27) d_Pl_rowsBehind_28 (by decide))) (rNot (rJ1 (tgt := 46) k_eq (rV p_Pl_paidAsKnown (Nat.le_trans (Nat.le_of_ble_eq_true rfl) hd) lv_Pl_64 (rAi (rAr rA0 (rAn 0 d_Pl_rowsBehind_31 rfl)) (rIn 3 d_Pl_rowsBehind_32 rfl)) (by decide) d_Pl_rowsBehind_33) d_Pl_rowsBehind_36 (by decide))))) (sRi (xE (rIa (rFr fl_Pl_28 nk_5_5 (rAn 0 d_Pl_rowsBehind_39 rfl) d_Pl_rowsBehind_40) (rIn 3 d_Pl_rowsBehind_43 rfl) d_Pl_rowsBehind_44)) d_Pl_rowsBehind_45 rfl)) (sS (p1 := 49) (sI (xE (rI d_Pl_rowsBehind_46 rfl)) d_Pl_rowsBehind_47 (by decide)) (sS (p1 := 151) (sS (p1 := 52) (sI (xE (rI d_Pl_rowsBehind_49 rfl)) d_Pl_rowsBehind_50 (by decide)) (sLp (ps := 145) (tt := 61) (pn := 151) (p1 := 0) (p2 := 0) (xC (rNot (rJ2 (tgt := 151) j_ge (rIl d_Pl_rowsBehind_52) (rF 8 fl_Pl_57 nk_9_8 (rAn 1 d_Pl_rowsBehind_54 rfl) d_Pl_rowsBehind_55 rfl) d_Pl_rowsBehind_58 (by decide)))) (sS (p1 := 89) (sIf (pn := 89) (tt := 145) (xOr (mm := 70) (xC (rJ1 (tgt := 145) k_ne (r2 o_and (r2 o_shr (rIn 3 d_Pl_rowsBehind_61 rfl) (rIl d_Pl_rowsBehind_62) d_Pl_rowsBehind_64) (rI d_Pl_rowsBehind_65 rfl) d_Pl_rowsBehind_66) d_Pl_rowsBehind_67 (by decide))) (xNot (xGf (p2 := 145) (xJ1 (tgt := 89) k_ne (xV lv_Pl_72 (xA (rAr (rAr (rAr (rAr rA0 (rAn 0 d_Pl_rowsBehind_70 rfl)) (rAn 1 d_Pl_rowsBehind_71 rfl)) (rAn 2 d_Pl_rowsBehind_72 rfl)) (rAa (rFr fl_Pl_68 nk_9_3 (rAn 1 d_Pl_rowsBehind_73 rfl) d_Pl_rowsBehind_74) (rIl d_Pl_rowsBehind_77) d_Pl_rowsBehind_79))) (by decide) d_Pl_rowsBehind_80) d_Pl_rowsBehind_83 (by decide)) d_Pl_rowsBehind_86 (by decide)))) sCo0) (sS (p1 := 98) (sAs (rFr fl_Pl_18 nk_5_2 (rAn 0 d_Pl_rowsBehind_89 rfl) d_Pl_rowsBehind_90) (rIl d_Pl_rowsBehind_93) (xE (rIl d_Pl_rowsBehind_95)) d_Pl_rowsBehind_97) (sS (p1 := 111) (sV (xVv lv_Pl_76 (xA (rAi (rAr (rAr rA0 (rAn 0 d_Pl_rowsBehind_98 rfl)) (rAa (rFr fl_Pl_68 nk_9_3 (rAn 1 d_Pl_rowsBehind_99 rfl) d_Pl_rowsBehind_100) (rIl d_Pl_rowsBehind_103) d_Pl_rowsBehind_105)) (rIl d_Pl_rowsBehind_106))) (by decide) d_Pl_rowsBehind_108)) (sS (p1 := 132) (sI (xx2 o_add (xE (rIl d_Pl_rowsBehind_111)) (xV lv_Pl_53 (xA (rAi (rAi (rAr (rAr (rAr rA0 (rAn 0 d_Pl_rowsBehind_113 rfl)) (rAn 1 d_Pl_rowsBehind_114 rfl)) (rAn 2 d_Pl_rowsBehind_115 rfl)) (r2 o_or (rIn 3 d_Pl_rowsBehind_116 rfl) (r2 o_shl (rI d_Pl_rowsBehind_117 rfl) (rIl d_Pl_rowsBehind_118) d_Pl_rowsBehind_120) d_Pl_rowsBehind_121)) (r2 o_add (rIl d_Pl_rowsBehind_122) (rI d_Pl_rowsBehind_124 rfl) d_Pl_rowsBehind_125))) (by decide) d_Pl_rowsBehind_126) d_Pl_rowsBehind_129) d_Pl_rowsBehind_130 (by decide)) (sV (xVv lv_Pl_80 (xA (rAi (rAr (rAr rA0 (rAn 0 d_Pl_rowsBehind_132 rfl)) (rAa (rFr fl_Pl_68 nk_9_3 (rAn 1 d_Pl_rowsBehind_133 rfl) d_Pl_rowsBehind_134) (rIl d_Pl_rowsBehind_137) d_Pl_rowsBehind_139)) (rIl d_Pl_rowsBehind_140))) (by decide) d_Pl_rowsBehind_142)))))) (sGo (pn := 52) (sInc d_Pl_rowsBehind_145 (by decide)) d_Pl_rowsBehind_148 (by decide)))) (sS (p1 := 158) (sZs (rFr fl_Pl_24 nk_5_4 (rAn 0 d_Pl_rowsBehind_151 rfl) d_Pl_rowsBehind_152) (rIn 3 d_Pl_rowsBehind_155 rfl) (xE (rI d_Pl_rowsBehind_156 rfl)) d_Pl_rowsBehind_157) (sS (p1 := 166) (sAs (rFr fl_Pl_28 nk_5_5 (rAn 0 d_Pl_rowsBehind_158 rfl) d_Pl_rowsBehind_159) (rIn 3 d_Pl_rowsBehind_162 rfl) (xE (rIl d_Pl_rowsBehind_163)) d_Pl_rowsBehind_165) (sS (p1 := 184) (sCp ka_Pl_83 (rFr fl_Pl_21 nk_5_3 (rAn 0 d_Pl_rowsBehind_166 rfl) d_Pl_rowsBehind_167) (rI d_Pl_rowsBehind_170 rfl) (rFr fl_Pl_31 nk_5_6 (rAn 0 d_Pl_rowsBehind_171 rfl) d_Pl_rowsBehind_172) (r2 o_mul (rIn 3 d_Pl_rowsBehind_175 rfl) (rB d_Pl_rowsBehind_176 rfl) d_Pl_rowsBehind_178) (rB d_Pl_rowsBehind_179 rfl) (Nat.le_trans (Nat.le_of_ble_eq_true rfl) hd) d_Pl_rowsBehind_181) (sRi (xE (rIl d_Pl_rowsBehind_184)) d_Pl_rowsBehind_186 rfl)))))))))
theorem q_Pl_rowsBehind (hA : okA A) : ∀ (f : Nat) {d : Nat} (hd : 9 + f ≤ d) {μ : zMem} {P : Int → Int} {used pl : Nat}, pl + f = V.length → CTx μ Z F A w → VCx 11 8 999 μ V → PlS A V (fun k => zbit (used : Int) k) P μ → okQ A V P → used < 256 → pcN 8 used = pl → (∀ i : Nat, i < 8 → ¬ zbit (used : Int) (i : Int) → P i = 0) → MmC Z F A w V μ → (μ 334 7 = 0 ∨ μ 334 7 = 1) → zSp d 0 0 y_Pl_rowsBehind zT0 [vr 334, vr 1, vr 324, vi used, vi pl] μ zT0 (fun q μ' => q = some (vi (plN Z F A w V f used P).1) ∧ RbC Z F A w V used P pl μ (plN Z F A w V f used P).2 μ') := by
  intro f
  induction f with
  | zero =>
    intro d hd μ P used pl hpl hC hV hS hQ hu hpc h0 hM hb
    have hl := hV.l
    have h8 := hV.1
    refine zSp.ss [vr 334, vr 1, vr 324, vi used, vi pl, vx 0, vx 0] rfl (w_Pl_rowsBehind (by omega)) rfl rfl ?_
    (try simp only [zit_e, Bool.and_eq_true, Bool.or_eq_true, Bool.not_eq_true', Bool.and_eq_false_iff, Bool.or_eq_false_iff, Bool.not_eq_false', zbe, zdt, zdf, zb2_p, zbp_0, zbp_1, zbp_inj, zbp_01, Bool.true_eq_false, Bool.false_eq_true, true_and, and_true, Decidable.not_not, Classical.not_not, implies_true, List.nil_append, List.cons_append, List.append_assoc, Option.some.injEq, Sum.inl.injEq, zSw_c, zSw_n]); (try simp only [zit_e, Bool.and_eq_true, Bool.or_eq_true, Bool.not_eq_true', Bool.and_eq_false_iff, Bool.or_eq_false_iff, Bool.not_eq_false', zbe, zdt, zdf, zb2_p, zbp_0, zbp_1, zbp_inj, zbp_01, Bool.true_eq_false, Bool.false_eq_true, true_and, and_true, Decidable.not_not, Classical.not_not, implies_true, List.nil_append, List.cons_append, List.append_assoc, Option.some.injEq, Sum.inl.injEq, zSw_c, zSw_n, zc_334, zc_1]); (try simp only [zi_cs, zi_c0, zii_cs, zii_c0, zl_cs, zl_c0, zll_cs, zll_c0, zr_cs, zr_c0, zrr_cs, zrr_c0, zxs_cs, zxs_c0, zxx_cs, zxx_c0, zfree_c0, zfree_c1, zfree_cs, zfree_cz, zlong_i, zlong_r, zlong_x, zset_0, zset_s, true_and, and_true, Option.some.injEq, Sum.inl.injEq, Sum.inr.injEq, zb2_p, zbp_0, zbp_1, zbp_inj, zbp_01, Nat.zero_add, Nat.reduceAdd, implies_true, List.nil_append, List.cons_append, List.append_assoc, Int.not_lt, Int.not_le, Decidable.not_not, Int.zero_add, Int.reduceLE, Int.reduceLT, Int.reduceEq, Int.reduceNe, Int.reduceAdd, Int.reduceSub, Int.reduceMul, Int.reduceNeg, Int.reduceToNat, Nat.reduceMul, Nat.reduceLT, Nat.reduceEqDiff, and_self, ite_true, ite_false, zx1, zx2, zRecv, List.length_cons, List.length_nil, ne_eq, not_true_eq_false, not_false_eq_true, true_or, or_true, or_false, false_or, and_false, false_and, zf01, zf10, reduceCtorEq, zSw_c, zSw_n, zm_r, zit_T, zit_F, false_implies, true_implies, zc_334, zc_1])
    rw [hl]
    refine zif (fun c => ?_) (fun c => by omega)
    refine zCw.use (q_Pl_keepFirst (d := 3) (by decide) hb) (by omega) (fun q μ1 e => ?_)
    obtain ⟨rfl, e1, e2⟩ := e
    refine ⟨rfl, rfl, ?_⟩
    rcases hb with hb | hb
    · obtain ⟨g1, g2, g3⟩ := e2 hb
      refine ⟨hS.c (g3 335 (by decide)) (g3 336 (by decide)) (g3 338 (by decide)), hM.c (g3 339 (by decide)) (g3 340 (by decide)) (g3 341 (by decide)) (fun _ => g1), ⟨fun q => absurd q (by omega), fun _ => ⟨fun q => (by cases q), fun l q => (by cases q; exact ⟨g1, fun i hi => g2 i (by omega) (by omega), fun i hi => absurd hi (Nat.not_lt_zero i)⟩)⟩⟩, fun i _ => by rw [g3 337 (by decide)], ⟨g3.mo (by simp), by rw [g3 326 (by decide)]; exact hC.2.2.2.2.2⟩, Or.inr g1⟩
    · obtain rfl := e1 hb
      exact ⟨hS, hM, ⟨fun q => ⟨q, fun _ _ _ => rfl⟩, fun q => absurd q (by omega)⟩, fun _ _ => rfl, ⟨zfc.rf, hC.2.2.2.2.2⟩, Or.inr hb⟩
  | succ f ih =>
    intro d hd μ P used pl hpl hC hV hS hQ hu hpc h0 hM hb
    have hl := hV.l
    have h8 := hV.1
    have hw := hC.2.2.2.2.2
    have hV8 : V.length ≤ 8 := by omega
    refine zSp.ss [vr 334, vr 1, vr 324, vi used, vi pl, vx 0, vx 0] rfl (w_Pl_rowsBehind (by omega)) rfl rfl ?_
    (try simp only [zit_e, Bool.and_eq_true, Bool.or_eq_true, Bool.not_eq_true', Bool.and_eq_false_iff, Bool.or_eq_false_iff, Bool.not_eq_false', zbe, zdt, zdf, zb2_p, zbp_0, zbp_1, zbp_inj, zbp_01, Bool.true_eq_false, Bool.false_eq_true, true_and, and_true, Decidable.not_not, Classical.not_not, implies_true, List.nil_append, List.cons_append, List.append_assoc, Option.some.injEq, Sum.inl.injEq, zSw_c, zSw_n]); (try simp only [zit_e, Bool.and_eq_true, Bool.or_eq_true, Bool.not_eq_true', Bool.and_eq_false_iff, Bool.or_eq_false_iff, Bool.not_eq_false', zbe, zdt, zdf, zb2_p, zbp_0, zbp_1, zbp_inj, zbp_01, Bool.true_eq_false, Bool.false_eq_true, true_and, and_true, Decidable.not_not, Classical.not_not, implies_true, List.nil_append, List.cons_append, List.append_assoc, Option.some.injEq, Sum.inl.injEq, zSw_c, zSw_n, zc_334, zc_1, f_Pl_paidAsKnown, g_Pl_paidAsKnown]); (try simp only [zi_cs, zi_c0, zii_cs, zii_c0, zl_cs, zl_c0, zll_cs, zll_c0, zr_cs, zr_c0, zrr_cs, zrr_c0, zxs_cs, zxs_c0, zxx_cs, zxx_c0, zfree_c0, zfree_c1, zfree_cs, zfree_cz, zlong_i, zlong_r, zlong_x, zset_0, zset_s, true_and, and_true, Option.some.injEq, Sum.inl.injEq, Sum.inr.injEq, zb2_p, zbp_0, zbp_1, zbp_inj, zbp_01, Nat.zero_add, Nat.reduceAdd, implies_true, List.nil_append, List.cons_append, List.append_assoc, Int.not_lt, Int.not_le, Decidable.not_not, Int.zero_add, Int.reduceLE, Int.reduceLT, Int.reduceEq, Int.reduceNe, Int.reduceAdd, Int.reduceSub, Int.reduceMul, Int.reduceNeg, Int.reduceToNat, Nat.reduceMul, Nat.reduceLT, Nat.reduceEqDiff, and_self, ite_true, ite_false, zx1, zx2, zRecv, List.length_cons, List.length_nil, ne_eq, not_true_eq_false, not_false_eq_true, true_or, or_true, or_false, false_or, and_false, false_and, zf01, zf10, reduceCtorEq, zSw_c, zSw_n, zm_r, zit_T, zit_F, false_implies, true_implies, zc_334, zc_1, f_Pl_paidAsKnown, g_Pl_paidAsKnown])
    rw [hl]
    refine zif (fun c => by omega) (fun c => ?_)
    have hR := plN_in (Z := Z) (F := F) (A := A) (w := w) hV8 (f + 1) used P
    refine ⟨⟨⟨by omega, by omega⟩, fun _ => ⟨by omega, by omega⟩⟩, ?_⟩
    refine zif (fun c2 => ?_) (fun c2 => ?_)
    · have hk := hM used hu
      have eq : eqQ (fun i => zit (zbit (used : Int) i) (μ 341 ((used : Int) * 8 + i)) 0) P := fun i i0 i1 => by
        have c22 : ∀ i : Int, 0 ≤ i → i < 8 → μ 338 i = μ 341 ((used : Int) * 8 + i) := Classical.byContradiction (fun q => c2.2 (zbf q))
        show zit (zbit (used : Int) i) (μ 341 ((used : Int) * 8 + i)) 0 = P i
        rw [← c22 i i0 i1]
        by_cases hz : zbit (used : Int) i
        · rw [zit_t hz]
          exact hS.2.2 i i0 i1 hz
        · obtain ⟨m, rfl⟩ := Int.eq_ofNat_of_zero_le i0
          rw [zit_f hz, h0 m (by omega) hz]
      have h1 : μ 339 used = 1 := by
        rcases hk.1 with q | q
        · exact absurd q c2.1
        · exact q
      obtain ⟨k1, k2⟩ := hk.2 h1
      rw [hpc, show V.length - pl = f + 1 by omega, plN_c hV8 (f + 1) used _ P eq] at k1
      refine ⟨by omega, k1, hS, hM, ⟨fun q => ⟨q, fun _ _ _ => rfl⟩, fun q => ?_⟩, fun _ _ => rfl, ⟨zfc.rf, hw⟩, hb⟩
      have hz : (plN Z F A w V (f + 1) used P).1 = 0 := Classical.byContradiction (fun z => by
        have := k2 (by rw [k1]; exact z)
        omega)
      have hn := hR.2.1.mp hz
      exact ⟨fun _ => q, fun l e => by rw [hn] at e; cases e⟩
    have hlp : 0 ≤ (8 ^ f : Nat) := Nat.zero_le _
    have hJ := fun j => plJ_in (Z := Z) (F := F) (A := A) (w := w) (V := V) (used := used) (P := P) (f := f) (M := ((8 ^ f : Nat) : Int)) (g := plN Z F A w V f) (Int.natCast_nonneg _) (fun u Q => plN_in hV8 f u Q) j
    have h87 : ((8 ^ f : Nat) : Int) ≤ 2097152 := by
      have : 8 ^ f ≤ 8 ^ 7 := Nat.pow_le_pow_right (by decide) (by omega)
      have e : (8 : Nat) ^ 7 = 2097152 := by decide
      omega
    refine zLoop.up V.length (fun j ρ ν => ρ = [vr 334, vr 1, vr 324, vi used, vi pl, vi (plJ Z F A w V (plN Z F A w V f) used P j).1, vi j] ∧ RbC Z F A w V used P pl μ (plJ Z F A w V (plN Z F A w V f) used P j).2 ν) ⟨rfl, hS, hM, ⟨fun q => ⟨q, fun _ _ _ => rfl⟩, fun q => ⟨fun _ => q, fun l e => (by cases e)⟩⟩, fun _ _ => rfl, ⟨zfc.rf, hw⟩, hb⟩ ?_
    rintro j ρ ν hj ⟨rfl, hSν, hMν, hFν, hrν, hpν, hbν⟩
    have hCν := hC.pl hpν
    have hVν : VCx 11 8 999 ν V := hV.k (hpν.1 1 (by decide)) (fun c p q => hpν.1 c (by simp only [List.mem_cons, List.not_mem_nil, or_false]; omega))
    have hlν := hVν.l
    (try simp only [zit_e, Bool.and_eq_true, Bool.or_eq_true, Bool.not_eq_true', Bool.and_eq_false_iff, Bool.or_eq_false_iff, Bool.not_eq_false', zbe, zdt, zdf, zb2_p, zbp_0, zbp_1, zbp_inj, zbp_01, Bool.true_eq_false, Bool.false_eq_true, true_and, and_true, Decidable.not_not, Classical.not_not, implies_true, List.nil_append, List.cons_append, List.append_assoc, Option.some.injEq, Sum.inl.injEq, zSw_c, zSw_n]); (try simp only [zit_e, Bool.and_eq_true, Bool.or_eq_true, Bool.not_eq_true', Bool.and_eq_false_iff, Bool.or_eq_false_iff, Bool.not_eq_false', zbe, zdt, zdf, zb2_p, zbp_0, zbp_1, zbp_inj, zbp_01, Bool.true_eq_false, Bool.false_eq_true, true_and, and_true, Decidable.not_not, Classical.not_not, implies_true, List.nil_append, List.cons_append, List.append_assoc, Option.some.injEq, Sum.inl.injEq, zSw_c, zSw_n, zc_334, zc_1]); (try simp only [zi_cs, zi_c0, zii_cs, zii_c0, zl_cs, zl_c0, zll_cs, zll_c0, zr_cs, zr_c0, zrr_cs, zrr_c0, zxs_cs, zxs_c0, zxx_cs, zxx_c0, zfree_c0, zfree_c1, zfree_cs, zfree_cz, zlong_i, zlong_r, zlong_x, zset_0, zset_s, true_and, and_true, Option.some.injEq, Sum.inl.injEq, Sum.inr.injEq, zb2_p, zbp_0, zbp_1, zbp_inj, zbp_01, Nat.zero_add, Nat.reduceAdd, implies_true, List.nil_append, List.cons_append, List.append_assoc, Int.not_lt, Int.not_le, Decidable.not_not, Int.zero_add, Int.reduceLE, Int.reduceLT, Int.reduceEq, Int.reduceNe, Int.reduceAdd, Int.reduceSub, Int.reduceMul, Int.reduceNeg, Int.reduceToNat, Nat.reduceMul, Nat.reduceLT, Nat.reduceEqDiff, and_self, ite_true, ite_false, zx1, zx2, zRecv, List.length_cons, List.length_nil, ne_eq, not_true_eq_false, not_false_eq_true, true_or, or_true, or_false, false_or, and_false, false_and, zf01, zf10, reduceCtorEq, zSw_c, zSw_n, zm_r, zit_T, zit_F, false_implies, true_implies, zc_334, zc_1])
    rw [hlν]
    refine zif (fun c3 => ?_) (fun c3 => ?_)
    · obtain ⟨i8, z1, z2, z3, ⟨e0, e1, e2, e3⟩, o⟩ := vC_in (i := j) hVν (by omega)
      have hJj := hJ j
      have hJj1 := hJ (j + 1)
      have hbit := zbit_e (s := (used : Int)) (k := (j : Int)) (by omega) (by omega) (by omega) (by omega)
      have hM8 : ∀ i : Nat, i ≤ 8 → ((8 ^ f : Nat) : Int) * i ≤ 2097152 * 8 := fun i hi => by
        have h1 : ((8 ^ f : Nat) : Int) * i ≤ 2097152 * (i : Int) := Int.mul_le_mul_of_nonneg_right h87 (by omega)
        omega
      have hb1 := hM8 j (by omega)
      have hb2 := hM8 (j + 1) (by omega)
      have nxt : ∀ {ν2 : zMem}, ¬ plC Z F A w V used P j → RbC Z F A w V used P pl μ (plJ Z F A w V (plN Z F A w V f) used P j).2 ν2 → zI ((j : Int) + 1) ∧ ∃ m', m' < V.length - j ∧ ∃ j', m' = V.length - j' ∧ j' ≤ V.length ∧ [vr 334, vr 1, vr 324, vi used, vi pl, vi (plJ Z F A w V (plN Z F A w V f) used P j).1, vi ((j : Int) + 1)] = [vr 334, vr 1, vr 324, vi used, vi pl, vi (plJ Z F A w V (plN Z F A w V f) used P j').1, vi j'] ∧ RbC Z F A w V used P pl μ (plJ Z F A w V (plN Z F A w V f) used P j').2 ν2 := by
        intro ν2 q1 q2
        exact ⟨by ((try simp only [zI_e]); (first | done | omega | skip)), V.length - (j + 1), by omega, j + 1, rfl, by omega, by rw [plJ_n q1]; rfl, by rw [plJ_n q1]; exact q2⟩
      rw [hbit, z3]
      refine zif (fun c4 => ?_) (fun c4 => ?_)
      · exact nxt (fun q => c4 (zbf q.1)) ⟨hSν, hMν, hFν, hrν, hpν, hbν⟩
      have c4 : ¬ zbit (used : Int) (j : Int) := fun q => c4 (by rw [zbt q]; decide)
      refine ⟨by omega, ?_⟩
      refine zCw.use (q_Pl_getsIn (d := 7) (by decide) hCν hVν (i := j) (by omega) hSν hQ) (by omega) (fun q ν2 e => ?_)
      obtain ⟨rfl, hcf⟩ := e
      refine ⟨_, rfl, ?_⟩
      have hS2 : PlS A V (fun k => zbit (used : Int) k) P ν2 := hSν.c (hcf.1 335 (by decide)) (hcf.1 336 (by decide)) (hcf.1 338 (by decide))
      have hM2 : MmC Z F A w V ν2 := hMν.c (hcf.1 339 (by decide)) (hcf.1 340 (by decide)) (hcf.1 341 (by decide)) (fun q => by rw [hcf.1 334 (by decide)]; exact q)
      have hp2 : CPl w μ ν2 := hpν.tr hcf.pl
      have k334 : ν2 334 = ν 334 := hcf.1 334 (by decide)
      have k337 : ν2 337 = ν 337 := hcf.1 337 (by decide)
      have k342 : ν2 342 = ν 342 := hcf.1 342 (by decide)
      refine zif (fun c5 => ?_) (fun c5 => ?_)
      · refine nxt (fun q => ?_) ⟨hS2, hM2, ?_, fun i hi => by rw [k337]; exact hrν i hi, hp2, by rw [k334]; exact hbν⟩
        · rw [zbt q.2] at c5
          exact absurd c5 (by decide)
        · unfold FdC at hFν ⊢
          rw [k334, k342]
          exact hFν
      have c5 : plD Z F A w V P j := Classical.byContradiction (fun q => c5 (zbf q))
      have hcc : plC Z F A w V used P j := ⟨c4, c5⟩
      rw [plJ_y hcc] at hJj1
      have hg := plN_in (Z := Z) (F := F) (A := A) (w := w) hV8 f (used + 2 ^ j) (upF P j (plX A V P j))
      have hz := zor_set (c := used) (i := j) hu (by omega) c4
      have hPj : P j = 0 := h0 j (by omega) c4
      have htb : ∀ i : Nat, zbit ((used + 2 ^ j : Nat) : Int) (i : Int) ↔ i = j ∨ zbit (used : Int) (i : Int) := fun i => by
        rw [zbit_n, zbit_n, tb_or hu (by omega) (by cases q2 : used.testBit j with | false => rfl | true => exact absurd (zbit_n.mpr q2) c4), Bool.or_eq_true, decide_eq_true_iff]
        exact ⟨fun q => q.elim Or.inr (fun z => Or.inl z.symm), fun q => q.elim (fun z => Or.inr z.symm) Or.inl⟩
      have htb2 : ∀ i : Int, 0 ≤ i → (zbit ((used + 2 ^ j : Nat) : Int) i ↔ i = (j : Int) ∨ zbit (used : Int) i) := fun i i0 => by
        obtain ⟨m, rfl⟩ := Int.eq_ofNat_of_zero_le i0
        rw [htb m]
        exact ⟨fun q => q.imp (fun z => by omega) id, fun q => q.imp (fun z => by omega) id⟩
      refine ⟨by omega, by omega, by omega, ?_⟩
      have hV3 : VCx 11 8 999 (zm ν2 337 pl j) V := (hVν.k (hcf.1 1 (by decide)) (fun c p q => hcf.1 c (by simp only [List.mem_cons, List.not_mem_nil, or_false]; omega))).k (zm_off _ (by decide)) (fun c p q => zm_off _ (by omega))
      refine zCw.use (q_Pl_settle (d := 3) (by decide) hV3 (i := j) (by omega) (hS2.c (zm_off _ (by decide)) (zm_off _ (by decide)) (zm_off _ (by decide))) hQ hPj) (by omega) (fun q ν3 e => ?_)
      obtain ⟨rfl, hS3, f3⟩ := e
      refine ⟨rfl, by ((try simp only [zI_e]); (first | done | omega | skip)), ?_⟩
      rw [hz.1]
      have hp3 : CPl w μ ν3 := hp2.tr ⟨(((zfc.rf (cs := [337])).zm (by decide)).tr f3).mo (by simp), by rw [f3 326 (by decide), zm_off _ (by decide)]; exact hp2.2⟩
      have hC3 := hC.pl hp3
      have hV3 : VCx 11 8 999 ν3 V := hV.k (hp3.1 1 (by decide)) (fun c p q => hp3.1 c (by simp only [List.mem_cons, List.not_mem_nil, or_false]; omega))
      have hM3 : MmC Z F A w V ν3 := hM2.c (by rw [f3 339 (by decide), zm_off _ (by decide)]) (by rw [f3 340 (by decide), zm_off _ (by decide)]) (by rw [f3 341 (by decide), zm_off _ (by decide)]) (fun q => by rw [f3 334 (by decide), zm_off _ (by decide)]; exact q)
      have hx := plX_in hQ hV.2.2 (i := j) (by omega)
      have hQ3 := okQ_up hQ hV.2.2 (i := j) (by omega) hPj
      have hb3 : ν3 334 7 = ν 334 7 := by rw [f3 334 (by decide), zm_off _ (by decide), k334]
      refine zCw.use (ih (d := 9 + f) (Nat.le_refl _) (used := used + 2 ^ j) (pl := pl + 1) (by omega) hC3 hV3 (hS3.mo (fun i i0 _ q => (htb2 i i0).mp q)) hQ3 hz.2.2 (by omega) (fun i hi hzi => ?_) hM3 (by rw [hb3]; exact hbν)) (by omega) (fun q ν4 e => ?_)
      · have e1 : ¬ i = j := fun q => hzi ((htb i).mpr (Or.inl q))
        rw [upF_o (by omega)]
        exact h0 i hi (fun q => hzi ((htb i).mpr (Or.inr q)))
      obtain ⟨rfl, hS4, hM4, hF4, hr4, hp4, hb4⟩ := e
      refine ⟨_, rfl, by have := hJj1.1; ((try simp only [zI_e]); (first | done | omega | skip)), by omega, ?_⟩
      have hp34 := hp3.tr hp4
      have hV4 : VCx 11 8 999 ν4 V := hV.k (hp34.1 1 (by decide)) (fun c p q => hp34.1 c (by simp only [List.mem_cons, List.not_mem_nil, or_false]; omega))
      refine zCw.use (q_Pl_unsettle (d := 2) (P := P) (x := plX A V P j) (by decide) hV4 (i := j) (by omega) (hS4.mo (fun i i0 _ q => (htb2 i i0).mpr q)) hQ3 (by have := o.2.2.2.2; omega) hPj) (by omega) (fun q ν5 e => ?_)
      obtain ⟨rfl, hS5, f5⟩ := e
      refine ⟨rfl, by ((try simp only [zI_e]); (first | done | omega | skip)), V.length - (j + 1), by omega, j + 1, rfl, by omega, by rw [plJ_y hcc]; rfl, ?_⟩
      rw [plJ_y hcc]
      refine ⟨hS5, hM4.c (f5 339 (by decide)) (f5 340 (by decide)) (f5 341 (by decide)) (fun q => by rw [f5 334 (by decide)]; exact q), ?_, fun i hi => ?_, hp34.tr ⟨f5.mo (by simp), by rw [f5 326 (by decide)]; exact hp34.2⟩, by rw [f5 334 (by decide)]; exact hb4⟩
      · have hF5 : FdC ν3 ν5 (pl + 1) (plN Z F A w V f (used + 2 ^ j) (upF P j (plX A V P j))).2 := by
          unfold FdC at hF4 ⊢
          rw [f5 334 (by decide), f5 342 (by decide)]
          exact hF4
        refine hFν.tr hbν hb3 (fun i i0 i1 => ?_) (fun i hi => ?_) ?_ (fun l hl => ?_) hF5 hb
        · rw [f3 342 (by decide), zm_off _ (by decide), k342]
        · rw [f3 337 (by decide), zm_o (by omega), k337]
          exact hrν i hi
        · rw [f3 337 (by decide), zm_s]
        · have := (hJ j).2.2 l hl
          omega
      · rw [f5 337 (by decide), hr4 i (by omega), f3 337 (by decide), zm_o (by omega), k337]
        exact hrν i hi
    · have ej : j = V.length := by omega
      subst ej
      have hfin : plJ Z F A w V (plN Z F A w V f) used P V.length = plN Z F A w V (f + 1) used P := rfl
      rw [hfin] at hFν ⊢
      refine ⟨by omega, by omega, by omega, by omega, by ((try simp only [zI_e]); (first | done | omega | skip)), by omega, rfl, ?_⟩
      generalize hNN : plN Z F A w V (f + 1) used P = NN at *
      have hoff : ∀ {a : Nat}, a ≠ 339 → a ≠ 340 → a ≠ 341 → zcp (zm (zm ν 339 used 1) 340 used NN.1) 338 0 341 ((used : Int) * 8) 8 a = ν a := fun {a} q1 q2 q3 => by
        funext i
        rw [zcp_r, zit_f (fun q => q3 q.1), zm_off _ q2, zm_off _ q1]
      refine ⟨hSν.c (hoff (by decide) (by decide) (by decide)) (hoff (by decide) (by decide) (by decide)) (hoff (by decide) (by decide) (by decide)), fun b hb256 => ?_, ?_, fun i hi => by rw [hoff (by decide) (by decide) (by decide)]; exact hrν i hi, hpν.tr ⟨?_, ?_⟩, by rw [hoff (by decide) (by decide) (by decide)]; exact hbν⟩
      · rw [hoff (a := 334) (by decide) (by decide) (by decide)]
        have k339 : ∀ i, zcp (zm (zm ν 339 used 1) 340 used NN.1) 338 0 341 ((used : Int) * 8) 8 339 i = zit (i = used) 1 (ν 339 i) := fun i => by
          rw [zcp_r, zit_f (fun q => absurd q.1 (by decide)), zm_off _ (by decide), zm_r, zit_t rfl]
        have k340 : ∀ i, zcp (zm (zm ν 339 used 1) 340 used NN.1) 338 0 341 ((used : Int) * 8) 8 340 i = zit (i = used) NN.1 (ν 340 i) := fun i => by
          rw [zcp_r, zit_f (fun q => absurd q.1 (by decide)), zm_r, zit_t rfl, zm_off _ (by decide)]
        have k341 : ∀ i, zcp (zm (zm ν 339 used 1) 340 used NN.1) 338 0 341 ((used : Int) * 8) 8 341 i = zit ((used : Int) * 8 ≤ i ∧ i < (used : Int) * 8 + 8) (ν 338 (i - (used : Int) * 8)) (ν 341 i) := fun i => by
          rw [zcp_r, zm_off 338 (by decide), zm_off 338 (by decide), zm_off 341 (by decide), zm_off 341 (by decide)]
          by_cases q : (used : Int) * 8 ≤ i ∧ i < (used : Int) * 8 + 8
          · rw [zit_t ⟨rfl, q⟩, zit_t q, Int.zero_add]
          · rw [zit_f (fun z => q z.2), zit_f q]
        rw [k339, k340]
        by_cases eb : b = used
        · subst eb
          rw [zit_t rfl, zit_t rfl]
          refine ⟨Or.inr rfl, fun _ => ⟨?_, fun q => ?_⟩⟩
          · have eq : eqQ (fun i => zit (zbit (b : Int) i) (zcp (zm (zm ν 339 b 1) 340 b NN.1) 338 0 341 ((b : Int) * 8) 8 341 ((b : Int) * 8 + i)) 0) P := fun i i0 i1 => by
              show zit (zbit (b : Int) i) (zcp (zm (zm ν 339 b 1) 340 b NN.1) 338 0 341 ((b : Int) * 8) 8 341 ((b : Int) * 8 + i)) 0 = P i
              by_cases hz : zbit (b : Int) i
              · rw [zit_t hz, k341, zit_t (by omega), show (b : Int) * 8 + i - (b : Int) * 8 = i by omega]
                exact hSν.2.2 i i0 i1 hz
              · obtain ⟨m, rfl⟩ := Int.eq_ofNat_of_zero_le i0
                rw [zit_f hz, h0 m (by omega) hz]
            rw [hpc, show V.length - pl = f + 1 by omega, plN_c hV8 (f + 1) b _ P eq, hNN]
          · rcases hb with h7 | h7
            · rcases hl2 : NN.2 with _ | l
              · exact absurd (hR.2.1.mpr hl2) q
              · exact ((hFν.2 h7).2 l hl2).1
            · exact (hFν.1 h7).1
        · rw [zit_f (by omega), zit_f (by omega)]
          obtain ⟨g1, g2⟩ := hMν b hb256
          refine ⟨g1, fun q => ⟨?_, (g2 q).2⟩⟩
          rw [(g2 q).1]
          congr 1
          refine plN_c hV8 _ b _ _ (fun i i0 i1 => ?_)
          show zit _ _ 0 = zit _ _ 0
          congr 1
          rw [k341, zit_f (by omega)]
      · unfold FdC at hFν ⊢
        rw [hoff (a := 334) (by decide) (by decide) (by decide), hoff (a := 342) (by decide) (by decide) (by decide)]
        exact hFν
      · exact ((((zfc.rf (cs := [325, 326, 327, 334, 335, 336, 337, 338, 339, 340, 341, 342])).zm (by decide)).zm (by decide)).cp (by decide))
      · rw [hoff (by decide) (by decide) (by decide)]
        exact hpν.2
end ZPR

