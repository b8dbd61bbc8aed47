/-! the reference's parts, terms, sums -/
section ZMQ
variable {d : Nat} {Q : zTk} {o : Bool} {t l w : Nat} {μ : zMem} {K : zRo} {k : Int}
theorem mu_w (hd : 5 ≤ d) (hQ : okK Q) (h : MSt Q o t l μ) (k0 : k ≠ 0) (hk : Q.1 t = k → ∀ μ', MSt Q o (t + 1) l μ' → FM μ μ' → K none μ') (hf : ¬ Q.1 t = k → ∀ μ', μ' 355 19 = Q.2.2.1 t → FM μ μ' → K none μ') : zCw d y_M_must [vr 355, vi k] μ K :=
  zCw.use (q_M_must (d := 4) (by decide) hQ h k0) hd (fun q μ' e => by
    obtain ⟨rfl, e1, e2, e3⟩ := e
    by_cases c : Q.1 t = k
    · exact hk c _ (e2 c) e1
    · exact hf c _ (e3 c) e1)
theorem mu_n (hd : 5 ≤ d) (h : ¬ μ 355 19 = -1) (hk : K none μ) : zCw d y_M_must [vr 355, vi k] μ K :=
  zCw.use (q_M_must_n (d := 4) (by decide) h) hd (fun q μ' e => by
    obtain ⟨rfl, rfl⟩ := e
    exact hk)
theorem le_w (hd : 5 ≤ d) (hQ : okK Q) (h : MSt Q o t l μ) (hl : l ≤ 50) (hc : Q.1 t ≠ 0) (hk : l < 50 → ∀ μ', MSt Q o (t + 1) (l + 1) μ' → FM μ μ' → K none μ') (hf : ¬ l < 50 → ∀ μ', μ' 355 19 = Q.2.2.1 t → FM μ μ' → K none μ') : zCw d y_M_leaf [vr 355] μ K :=
  zCw.use (q_M_leaf (d := 4) (by decide) hQ h hl hc) hd (fun q μ' e => by
    obtain ⟨rfl, e1, e2, e3⟩ := e
    by_cases c : l < 50
    · exact hk c _ (e2 c) e1
    · exact hf c _ (e3 c) e1)
theorem mn_w {a b : Int} (hd : 5 ≤ d) (hQ : okK Q) (h : MSt Q o t l μ) (hk : Q.1 t = 50 ∧ a ≤ Q.2.1 t ∧ Q.2.1 t ≤ b → ∀ μ', MSt Q o (t + 1) l μ' → FM μ μ' → K none μ') (hf : ¬ (Q.1 t = 50 ∧ a ≤ Q.2.1 t ∧ Q.2.1 t ≤ b) → ∀ μ', μ' 355 19 = Q.2.2.1 t → FM μ μ' → K none μ') : zCw d y_M_mustNumber [vr 355, vi a, vi b] μ K :=
  zCw.use (q_M_mustNumber (d := 4) (by decide) hQ h) hd (fun q μ' e => by
    obtain ⟨rfl, e1, e2, e3⟩ := e
    by_cases c : Q.1 t = 50 ∧ a ≤ Q.2.1 t ∧ Q.2.1 t ≤ b
    · exact hk c _ (e2 c) e1
    · exact hf c _ (e3 c) e1)
theorem mn_n {a b : Int} (hd : 5 ≤ d) (h : ¬ μ 355 19 = -1) (hk : K none μ) : zCw d y_M_mustNumber [vr 355, vi a, vi b] μ K :=
  zCw.use (q_M_mustNumber_n (d := 4) (by decide) h) hd (fun q μ' e => by
    obtain ⟨rfl, rfl⟩ := e
    exact hk)
theorem MP_n {R : PrR} {μ' : zMem} (h : R = (t, none)) (h1 : μ' 355 19 = Q.2.2.1 t) (h2 : FM μ μ') : MP Q o R μ none μ' := by
  refine ⟨rfl, fun t1 e => ?_, fun t1 l1 m c e => ?_⟩
  · rw [h] at e
    cases e
    exact ⟨h1, h2⟩
  · rw [h] at e
    cases e
theorem MP_s {R : PrR} {m : Mn} {c : List Int} {μ' : zMem} (h : R = (t, some (l, m, c))) (h1 : MSt Q o t l μ') (h2 : FM μ μ') : MP Q o R μ none μ' := by
  refine ⟨rfl, fun t1 e => ?_, fun t1 l1 m c e => ?_⟩
  · rw [h] at e
    cases e
  · rw [h] at e
    cases e
    exact ⟨h1, h2⟩
theorem bad_n (hQ : okK Q) (h : μ 355 19 = Q.2.2.1 t) : ¬ μ 355 19 = -1 := by
  have := hQ.2.2.2 t
  omega
end ZMQ
theorem m_M_sign : Cond.static y_M_sign.1 ∈ zTb ∧ Cond.initialized y_M_sign.1.cls ∈ zTb ∧ Cond.code y_M_sign.1 y_M_sign.2.1 y_M_sign.2.2.1 y_M_sign.2.2.2 ∈ zTb ∧ (y_M_sign.1.cls ≠ "java/lang/invoke/MethodHandle" ∧ y_M_sign.1.cls ≠ "java/lang/invoke/VarHandle" ∧ (parseMethodDescriptor y_M_sign.1.desc).map (fun d => d.parameters.length) = some 1) ∧ y_M_sign.2.2.1 ≤ 20 :=
  ⟨(zTb_in 1631 (by decide +kernel) (by decide +kernel)), (zTb_in 151 (by decide +kernel) (by decide +kernel)), (zTb_in 1632 (by decide +kernel) (by decide +kernel)), by decide +kernel, by decide +kernel⟩
theorem ls_M_249 : zLs "DebtDoorsModel" 249 y_M_sign 1 := Or.inl ⟨(zTb_in 1630 (by decide +kernel) (by decide +kernel)), m_M_sign⟩
def y_M_readSum : zMt := (⟨"DebtDoorsModel", "readSum", "(I)V"⟩, prog_14_method_55_code, 2, none)
theorem m_M_readSum : Cond.instanceMethod y_M_readSum.1 ∈ zTb ∧ Cond.selects y_M_readSum.1.cls y_M_readSum.1 y_M_readSum.1 ∈ zTb ∧ Cond.initialized y_M_readSum.1.cls ∈ zTb ∧ Cond.code y_M_readSum.1 y_M_readSum.2.1 y_M_readSum.2.2.1 y_M_readSum.2.2.2 ∈ zTb ∧ (y_M_readSum.1.cls ≠ "java/lang/invoke/MethodHandle" ∧ y_M_readSum.1.cls ≠ "java/lang/invoke/VarHandle" ∧ (parseMethodDescriptor y_M_readSum.1.desc).map (fun d => d.parameters.length) = some 1) ∧ y_M_readSum.2.2.1 ≤ 20 :=
  ⟨(zTb_in 1729 (by decide +kernel) (by decide +kernel)), (List.mem_filter.mpr ⟨List.mem_append_left _ (by decide +kernel), by decide +kernel⟩), (zTb_in 151 (by decide +kernel) (by decide +kernel)), (zTb_in 1730 (by decide +kernel) (by decide +kernel)), by decide +kernel, by decide +kernel⟩
theorem lv_M_223 : zLv "DebtDoorsModel" 223 y_M_readSum 1 12 := ⟨⟨(zTb_in 1727 (by decide +kernel) (by decide +kernel)), m_M_readSum.1, m_M_readSum.2.1, m_M_readSum.2.2⟩, _, rfl, rfl⟩
theorem m_M_must : Cond.instanceMethod y_M_must.1 ∈ zTb ∧ Cond.selects y_M_must.1.cls y_M_must.1 y_M_must.1 ∈ zTb ∧ Cond.initialized y_M_must.1.cls ∈ zTb ∧ Cond.code y_M_must.1 y_M_must.2.1 y_M_must.2.2.1 y_M_must.2.2.2 ∈ zTb ∧ (y_M_must.1.cls ≠ "java/lang/invoke/MethodHandle" ∧ y_M_must.1.cls ≠ "java/lang/invoke/VarHandle" ∧ (parseMethodDescriptor y_M_must.1.desc).map (fun d => d.parameters.length) = some 1) ∧ y_M_must.2.2.1 ≤ 20 :=
  ⟨(zTb_in 1745 (by decide +kernel) (by decide +kernel)), (List.mem_filter.mpr ⟨List.mem_append_left _ (by decide +kernel), by decide +kernel⟩), (zTb_in 151 (by decide +kernel) (by decide +kernel)), (zTb_in 1746 (by decide +kernel) (by decide +kernel)), by decide +kernel, by decide +kernel⟩
theorem lv_M_227 : zLv "DebtDoorsModel" 227 y_M_must 1 12 := ⟨⟨(zTb_in 1743 (by decide +kernel) (by decide +kernel)), m_M_must.1, m_M_must.2.1, m_M_must.2.2⟩, _, rfl, rfl⟩
theorem m_M_isValue : Cond.instanceMethod y_M_isValue.1 ∈ zTb ∧ Cond.selects y_M_isValue.1.cls y_M_isValue.1 y_M_isValue.1 ∈ zTb ∧ Cond.initialized y_M_isValue.1.cls ∈ zTb ∧ Cond.code y_M_isValue.1 y_M_isValue.2.1 y_M_isValue.2.2.1 y_M_isValue.2.2.2 ∈ zTb ∧ (y_M_isValue.1.cls ≠ "java/lang/invoke/MethodHandle" ∧ y_M_isValue.1.cls ≠ "java/lang/invoke/VarHandle" ∧ (parseMethodDescriptor y_M_isValue.1.desc).map (fun d => d.parameters.length) = some 1) ∧ y_M_isValue.2.2.1 ≤ 20 :=
  ⟨(zTb_in 1749 (by decide +kernel) (by decide +kernel)), (List.mem_filter.mpr ⟨List.mem_append_left _ (by decide +kernel), by decide +kernel⟩), (zTb_in 151 (by decide +kernel) (by decide +kernel)), (zTb_in 1750 (by decide +kernel) (by decide +kernel)), by decide +kernel, by decide +kernel⟩
theorem lv_M_259 : zLv "DebtDoorsModel" 259 y_M_isValue 1 12 := ⟨⟨(zTb_in 1747 (by decide +kernel) (by decide +kernel)), m_M_isValue.1, m_M_isValue.2.1, m_M_isValue.2.2⟩, _, rfl, rfl⟩
theorem m_M_leaf : Cond.instanceMethod y_M_leaf.1 ∈ zTb ∧ Cond.selects y_M_leaf.1.cls y_M_leaf.1 y_M_leaf.1 ∈ zTb ∧ Cond.initialized y_M_leaf.1.cls ∈ zTb ∧ Cond.code y_M_leaf.1 y_M_leaf.2.1 y_M_leaf.2.2.1 y_M_leaf.2.2.2 ∈ zTb ∧ (y_M_leaf.1.cls ≠ "java/lang/invoke/MethodHandle" ∧ y_M_leaf.1.cls ≠ "java/lang/invoke/VarHandle" ∧ (parseMethodDescriptor y_M_leaf.1.desc).map (fun d => d.parameters.length) = some 0) ∧ y_M_leaf.2.2.1 ≤ 20 :=
  ⟨(zTb_in 1753 (by decide +kernel) (by decide +kernel)), (List.mem_filter.mpr ⟨List.mem_append_left _ (by decide +kernel), by decide +kernel⟩), (zTb_in 151 (by decide +kernel) (by decide +kernel)), (zTb_in 1754 (by decide +kernel) (by decide +kernel)), by decide +kernel, by decide +kernel⟩
theorem lv_M_262 : zLv "DebtDoorsModel" 262 y_M_leaf 0 12 := ⟨⟨(zTb_in 1751 (by decide +kernel) (by decide +kernel)), m_M_leaf.1, m_M_leaf.2.1, m_M_leaf.2.2⟩, _, rfl, rfl⟩
theorem m_M_mustNumber : Cond.instanceMethod y_M_mustNumber.1 ∈ zTb ∧ Cond.selects y_M_mustNumber.1.cls y_M_mustNumber.1 y_M_mustNumber.1 ∈ zTb ∧ Cond.initialized y_M_mustNumber.1.cls ∈ zTb ∧ Cond.code y_M_mustNumber.1 y_M_mustNumber.2.1 y_M_mustNumber.2.2.1 y_M_mustNumber.2.2.2 ∈ zTb ∧ (y_M_mustNumber.1.cls ≠ "java/lang/invoke/MethodHandle" ∧ y_M_mustNumber.1.cls ≠ "java/lang/invoke/VarHandle" ∧ (parseMethodDescriptor y_M_mustNumber.1.desc).map (fun d => d.parameters.length) = some 2) ∧ y_M_mustNumber.2.2.1 ≤ 20 :=
  ⟨(zTb_in 1757 (by decide +kernel) (by decide +kernel)), (List.mem_filter.mpr ⟨List.mem_append_left _ (by decide +kernel), by decide +kernel⟩), (zTb_in 151 (by decide +kernel) (by decide +kernel)), (zTb_in 1758 (by decide +kernel) (by decide +kernel)), by decide +kernel, by decide +kernel⟩
theorem lv_M_233 : zLv "DebtDoorsModel" 233 y_M_mustNumber 2 12 := ⟨⟨(zTb_in 1755 (by decide +kernel) (by decide +kernel)), m_M_mustNumber.1, m_M_mustNumber.2.1, m_M_mustNumber.2.2⟩, _, rfl, rfl⟩
def y_M_readPart : zMt := (⟨"DebtDoorsModel", "readPart", "(I)V"⟩, prog_14_method_57_code, 3, none)
theorem d_M_readPart_0 : decode prog_14_method_57_code 0 = .ok (.aload_n 0, 1) := by decide +kernel
theorem d_M_readPart_1 : decode prog_14_method_57_code 1 = .ok (.invokevirtual 203, 3) := by decide +kernel
theorem d_M_readPart_4 : decode prog_14_method_57_code 4 = .ok (.ifCond .ne 4, 3) := by decide +kernel
theorem d_M_readPart_7 : decode prog_14_method_57_code 7 = .ok (.return_, 1) := by decide +kernel
theorem d_M_readPart_8 : decode prog_14_method_57_code 8 = .ok (.aload_n 0, 1) := by decide +kernel
theorem d_M_readPart_9 : decode prog_14_method_57_code 9 = .ok (.getfield 50, 3) := by decide +kernel
theorem d_M_readPart_12 : decode prog_14_method_57_code 12 = .ok (.aload_n 0, 1) := by decide +kernel
theorem d_M_readPart_13 : decode prog_14_method_57_code 13 = .ok (.getfield 207, 3) := by decide +kernel
theorem d_M_readPart_16 : decode prog_14_method_57_code 16 = .ok (.iaload, 1) := by decide +kernel
theorem d_M_readPart_17 : decode prog_14_method_57_code 17 = .ok (.istore_n 2, 1) := by decide +kernel
theorem d_M_readPart_18 : decode prog_14_method_57_code 18 = .ok (.iload_n 2, 1) := by decide +kernel
theorem d_M_readPart_19 : decode prog_14_method_57_code 19 = .ok (.bipush 91, 2) := by decide +kernel
theorem d_M_readPart_21 : decode prog_14_method_57_code 21 = .ok (.invokestatic 249, 3) := by decide +kernel
theorem d_M_readPart_24 : decode prog_14_method_57_code 24 = .ok (.if_icmp .ne 50, 3) := by decide +kernel
theorem d_M_readPart_27 : decode prog_14_method_57_code 27 = .ok (.iload_n 1, 1) := by decide +kernel
theorem d_M_readPart_28 : decode prog_14_method_57_code 28 = .ok (.bipush 8, 2) := by decide +kernel
theorem d_M_readPart_30 : decode prog_14_method_57_code 30 = .ok (.if_icmp .ne 7, 3) := by decide +kernel
theorem d_M_readPart_33 : decode prog_14_method_57_code 33 = .ok (.aload_n 0, 1) := by decide +kernel
theorem d_M_readPart_34 : decode prog_14_method_57_code 34 = .ok (.invokevirtual 213, 3) := by decide +kernel
theorem d_M_readPart_37 : decode prog_14_method_57_code 37 = .ok (.aload_n 0, 1) := by decide +kernel
theorem d_M_readPart_38 : decode prog_14_method_57_code 38 = .ok (.invokevirtual 203, 3) := by decide +kernel
theorem d_M_readPart_41 : decode prog_14_method_57_code 41 = .ok (.ifCond .ne 4, 3) := by decide +kernel
theorem d_M_readPart_44 : decode prog_14_method_57_code 44 = .ok (.return_, 1) := by decide +kernel
theorem d_M_readPart_45 : decode prog_14_method_57_code 45 = .ok (.aload_n 0, 1) := by decide +kernel
theorem d_M_readPart_46 : decode prog_14_method_57_code 46 = .ok (.dup, 1) := by decide +kernel
theorem d_M_readPart_47 : decode prog_14_method_57_code 47 = .ok (.getfield 207, 3) := by decide +kernel
theorem d_M_readPart_50 : decode prog_14_method_57_code 50 = .ok (.iconst 1, 1) := by decide +kernel
theorem d_M_readPart_51 : decode prog_14_method_57_code 51 = .ok (.iadd, 1) := by decide +kernel
theorem d_M_readPart_52 : decode prog_14_method_57_code 52 = .ok (.putfield 207, 3) := by decide +kernel
theorem d_M_readPart_55 : decode prog_14_method_57_code 55 = .ok (.aload_n 0, 1) := by decide +kernel
theorem d_M_readPart_56 : decode prog_14_method_57_code 56 = .ok (.iload_n 1, 1) := by decide +kernel
theorem d_M_readPart_57 : decode prog_14_method_57_code 57 = .ok (.iconst 1, 1) := by decide +kernel
theorem d_M_readPart_58 : decode prog_14_method_57_code 58 = .ok (.iadd, 1) := by decide +kernel
theorem d_M_readPart_59 : decode prog_14_method_57_code 59 = .ok (.invokevirtual 223, 3) := by decide +kernel
theorem d_M_readPart_62 : decode prog_14_method_57_code 62 = .ok (.aload_n 0, 1) := by decide +kernel
theorem d_M_readPart_63 : decode prog_14_method_57_code 63 = .ok (.bipush 93, 2) := by decide +kernel
theorem d_M_readPart_65 : decode prog_14_method_57_code 65 = .ok (.invokestatic 249, 3) := by decide +kernel
theorem d_M_readPart_68 : decode prog_14_method_57_code 68 = .ok (.invokevirtual 227, 3) := by decide +kernel
theorem d_M_readPart_71 : decode prog_14_method_57_code 71 = .ok (.goto 89, 3) := by decide +kernel
theorem d_M_readPart_74 : decode prog_14_method_57_code 74 = .ok (.iload_n 2, 1) := by decide +kernel
theorem d_M_readPart_75 : decode prog_14_method_57_code 75 = .ok (.bipush 50, 2) := by decide +kernel
theorem d_M_readPart_77 : decode prog_14_method_57_code 77 = .ok (.if_icmp .ne 18, 3) := by decide +kernel
theorem d_M_readPart_80 : decode prog_14_method_57_code 80 = .ok (.aload_n 0, 1) := by decide +kernel
theorem d_M_readPart_81 : decode prog_14_method_57_code 81 = .ok (.getfield 53, 3) := by decide +kernel
theorem d_M_readPart_84 : decode prog_14_method_57_code 84 = .ok (.aload_n 0, 1) := by decide +kernel
theorem d_M_readPart_85 : decode prog_14_method_57_code 85 = .ok (.getfield 207, 3) := by decide +kernel
theorem d_M_readPart_88 : decode prog_14_method_57_code 88 = .ok (.iaload, 1) := by decide +kernel
theorem d_M_readPart_89 : decode prog_14_method_57_code 89 = .ok (.sipush 1000, 3) := by decide +kernel
theorem d_M_readPart_92 : decode prog_14_method_57_code 92 = .ok (.if_icmp .le 11, 3) := by decide +kernel
theorem d_M_readPart_95 : decode prog_14_method_57_code 95 = .ok (.aload_n 0, 1) := by decide +kernel
theorem d_M_readPart_96 : decode prog_14_method_57_code 96 = .ok (.iload_n 2, 1) := by decide +kernel
theorem d_M_readPart_97 : decode prog_14_method_57_code 97 = .ok (.invokevirtual 259, 3) := by decide +kernel
theorem d_M_readPart_100 : decode prog_14_method_57_code 100 = .ok (.ifCond .eq 56, 3) := by decide +kernel
theorem d_M_readPart_103 : decode prog_14_method_57_code 103 = .ok (.aload_n 0, 1) := by decide +kernel
theorem d_M_readPart_104 : decode prog_14_method_57_code 104 = .ok (.invokevirtual 262, 3) := by decide +kernel
theorem d_M_readPart_107 : decode prog_14_method_57_code 107 = .ok (.aload_n 0, 1) := by decide +kernel
theorem d_M_readPart_108 : decode prog_14_method_57_code 108 = .ok (.getfield 219, 3) := by decide +kernel
theorem d_M_readPart_111 : decode prog_14_method_57_code 111 = .ok (.ifCond .eq 22, 3) := by decide +kernel
theorem d_M_readPart_114 : decode prog_14_method_57_code 114 = .ok (.iload_n 2, 1) := by decide +kernel
theorem d_M_readPart_115 : decode prog_14_method_57_code 115 = .ok (.bipush 22, 2) := by decide +kernel
theorem d_M_readPart_117 : decode prog_14_method_57_code 117 = .ok (.if_icmp .eq 9, 3) := by decide +kernel
theorem d_M_readPart_120 : decode prog_14_method_57_code 120 = .ok (.iload_n 2, 1) := by decide +kernel
theorem d_M_readPart_121 : decode prog_14_method_57_code 121 = .ok (.bipush 23, 2) := by decide +kernel
theorem d_M_readPart_123 : decode prog_14_method_57_code 123 = .ok (.if_icmp .ne 10, 3) := by decide +kernel
theorem d_M_readPart_126 : decode prog_14_method_57_code 126 = .ok (.aload_n 0, 1) := by decide +kernel
theorem d_M_readPart_127 : decode prog_14_method_57_code 127 = .ok (.iconst 0, 1) := by decide +kernel
theorem d_M_readPart_128 : decode prog_14_method_57_code 128 = .ok (.bipush 6, 2) := by decide +kernel
theorem d_M_readPart_130 : decode prog_14_method_57_code 130 = .ok (.invokevirtual 233, 3) := by decide +kernel
theorem d_M_readPart_133 : decode prog_14_method_57_code 133 = .ok (.aload_n 0, 1) := by decide +kernel
theorem d_M_readPart_134 : decode prog_14_method_57_code 134 = .ok (.getfield 219, 3) := by decide +kernel
theorem d_M_readPart_137 : decode prog_14_method_57_code 137 = .ok (.ifCond .eq 23, 3) := by decide +kernel
theorem d_M_readPart_140 : decode prog_14_method_57_code 140 = .ok (.iload_n 2, 1) := by decide +kernel
theorem d_M_readPart_141 : decode prog_14_method_57_code 141 = .ok (.bipush 23, 2) := by decide +kernel
theorem d_M_readPart_143 : decode prog_14_method_57_code 143 = .ok (.if_icmp .ne 17, 3) := by decide +kernel
theorem d_M_readPart_146 : decode prog_14_method_57_code 146 = .ok (.aload_n 0, 1) := by decide +kernel
theorem d_M_readPart_147 : decode prog_14_method_57_code 147 = .ok (.iconst 0, 1) := by decide +kernel
theorem d_M_readPart_148 : decode prog_14_method_57_code 148 = .ok (.bipush 6, 2) := by decide +kernel
theorem d_M_readPart_150 : decode prog_14_method_57_code 150 = .ok (.invokevirtual 233, 3) := by decide +kernel
theorem d_M_readPart_153 : decode prog_14_method_57_code 153 = .ok (.goto 7, 3) := by decide +kernel
theorem d_M_readPart_156 : decode prog_14_method_57_code 156 = .ok (.aload_n 0, 1) := by decide +kernel
theorem d_M_readPart_157 : decode prog_14_method_57_code 157 = .ok (.invokevirtual 213, 3) := by decide +kernel
theorem d_M_readPart_160 : decode prog_14_method_57_code 160 = .ok (.return_, 1) := by decide +kernel
def w_M_readPart {d : Nat} (hd : 3 ≤ d) := (show SS ("DebtDoorsModel", prog_14_method_57_code, 3) (none) d 0 0 0 0 _ from (sS (p1 := 8) (sIf (pn := 8) (tt := 7) (xC (rNot (rJ1 (tgt := 8) k_ne (rV p_M_fine (Nat.le_trans (Nat.le_of_ble_eq_true rfl) hd) lv_M_203 (rAr rA0 (rAn 0 d_M_readPart_0 rfl)) (by decide) d_M_readPart_1) d_M_readPart_4 (by decide)))) (sRv d_M_readPart_7 rfl)) (sS (p1 := 18) (sIn 2 (xE (rIa (rFr fl_M_50 nk_12_13 (rAn 0 d_M_readPart_8 rfl) d_M_readPart_9) (rF 17 fl_M_207 nk_12_17 (rAn 0 d_M_readPart_12 rfl) d_M_readPart_13 rfl) d_M_readPart_16)) d_M_readPart_17 rfl (by decide)) (sS (p1 := 160) (sIe (pn := 160) (tt := 27) (ff := 74) (xC (rNot (rJ2 (tgt := 74) j_ne (rIn 2 d_M_readPart_18 rfl) (rS p_M_sign (Nat.le_trans (Nat.le_of_ble_eq_true rfl) hd) ls_M_249 (rAi rA0 (rB d_M_readPart_19 rfl)) (by decide) d_M_readPart_21) d_M_readPart_24 (by decide)))) (sS (p1 := 37) (sIf (pn := 37) (tt := 33) (xC (rNot (rJ2 (tgt := 37) j_ne (rIn 1 d_M_readPart_27 rfl) (rB d_M_readPart_28 rfl) d_M_readPart_30 (by decide)))) (sV (xVv lv_M_213 (xA (rAr rA0 (rAn 0 d_M_readPart_33 rfl))) (by decide) d_M_readPart_34))) (sS (p1 := 45) (sIf (pn := 45) (tt := 44) (xC (rNot (rJ1 (tgt := 45) k_ne (rV p_M_fine (Nat.le_trans (Nat.le_of_ble_eq_true rfl) hd) lv_M_203 (rAr rA0 (rAn 0 d_M_readPart_37 rfl)) (by decide) d_M_readPart_38) d_M_readPart_41 (by decide)))) (sRv d_M_readPart_44 rfl)) (sS (p1 := 55) (sPo 17 o_add fl_M_207 fp_12_17 nk_12_17 (rAn 0 d_M_readPart_45 rfl) d_M_readPart_46 d_M_readPart_47 (rI d_M_readPart_50 rfl) d_M_readPart_51 d_M_readPart_52 rfl) (sS (p1 := 62) (sV (xVv lv_M_223 (xA (rAi (rAr rA0 (rAn 0 d_M_readPart_55 rfl)) (r2 o_add (rIn 1 d_M_readPart_56 rfl) (rI d_M_readPart_57 rfl) d_M_readPart_58))) (by decide) d_M_readPart_59)) (sGo (pn := 160) (sV (xVv lv_M_227 (xA (rAi (rAr rA0 (rAn 0 d_M_readPart_62 rfl)) (rS p_M_sign (Nat.le_trans (Nat.le_of_ble_eq_true rfl) hd) ls_M_249 (rAi rA0 (rB d_M_readPart_63 rfl)) (by decide) d_M_readPart_65))) (by decide) d_M_readPart_68)) d_M_readPart_71 (by decide)))))) (sIe (pn := 160) (tt := 103) (ff := 156) (xC (rOr (mm := 95) (rAnd (mm := 80) (rNot (rJ2 (tgt := 95) j_ne (rIn 2 d_M_readPart_74 rfl) (rB d_M_readPart_75 rfl) d_M_readPart_77 (by decide))) (rJ2 (tgt := 103) j_le (rIa (rFr fl_M_53 nk_12_14 (rAn 0 d_M_readPart_80 rfl) d_M_readPart_81) (rF 17 fl_M_207 nk_12_17 (rAn 0 d_M_readPart_84 rfl) d_M_readPart_85 rfl) d_M_readPart_88) (rSi d_M_readPart_89 rfl) d_M_readPart_92 (by decide))) (rNot (rJ1 (tgt := 156) k_eq (rV p_M_isValue (Nat.le_trans (Nat.le_of_ble_eq_true rfl) hd) lv_M_259 (rAi (rAr rA0 (rAn 0 d_M_readPart_95 rfl)) (rIn 2 d_M_readPart_96 rfl)) (by decide) d_M_readPart_97) d_M_readPart_100 (by decide))))) (sS (p1 := 107) (sV (xVv lv_M_262 (xA (rAr rA0 (rAn 0 d_M_readPart_103 rfl))) (by decide) d_M_readPart_104)) (sS (p1 := 133) (sIf (pn := 133) (tt := 126) (xC (rAnd (mm := 114) (rNot (rJ1 (tgt := 133) k_eq (rF 8 fl_M_219 nk_12_8 (rAn 0 d_M_readPart_107 rfl) d_M_readPart_108 rfl) d_M_readPart_111 (by decide))) (rOr (mm := 120) (rJ2 (tgt := 126) j_eq (rIn 2 d_M_readPart_114 rfl) (rB d_M_readPart_115 rfl) d_M_readPart_117 (by decide)) (rNot (rJ2 (tgt := 133) j_ne (rIn 2 d_M_readPart_120 rfl) (rB d_M_readPart_121 rfl) d_M_readPart_123 (by decide)))))) (sV (xVv lv_M_233 (xA (rAi (rAi (rAr rA0 (rAn 0 d_M_readPart_126 rfl)) (rI d_M_readPart_127 rfl)) (rB d_M_readPart_128 rfl))) (by decide) d_M_readPart_130))) (sIf (pn := 160) (tt := 146) (xC (rAnd (mm := 140) (rNot (rJ1 (tgt := 160) k_eq (rF 8 fl_M_219 nk_12_8 (rAn 0 d_M_readPart_133 rfl) d_M_readPart_134 rfl) d_M_readPart_137 (by decide))) (rNot (rJ2 (tgt := 160) j_ne (rIn 2 d_M_readPart_140 rfl) (rB d_M_readPart_141 rfl) d_M_readPart_143 (by decide))))) (sGo (pn := 160) (sV (xVv lv_M_233 (xA (rAi (rAi (rAr rA0 (rAn 0 d_M_readPart_146 rfl)) (rI d_M_readPart_147 rfl)) (rB d_M_readPart_148 rfl))) (by decide) d_M_readPart_150)) d_M_readPart_153 (by decide))))) (sV (xVv lv_M_213 (xA (rAr rA0 (rAn 0 d_M_readPart_156 rfl))) (by decide) d_M_readPart_157)))) (sRv d_M_readPart_160 rfl)))))
theorem m_M_readPart : Cond.instanceMethod y_M_readPart.1 ∈ zTb ∧ Cond.selects y_M_readPart.1.cls y_M_readPart.1 y_M_readPart.1 ∈ zTb ∧ Cond.initialized y_M_readPart.1.cls ∈ zTb ∧ Cond.code y_M_readPart.1 y_M_readPart.2.1 y_M_readPart.2.2.1 y_M_readPart.2.2.2 ∈ zTb ∧ (y_M_readPart.1.cls ≠ "java/lang/invoke/MethodHandle" ∧ y_M_readPart.1.cls ≠ "java/lang/invoke/VarHandle" ∧ (parseMethodDescriptor y_M_readPart.1.desc).map (fun d => d.parameters.length) = some 1) ∧ y_M_readPart.2.2.1 ≤ 20 :=
  ⟨(zTb_in 1737 (by decide +kernel) (by decide +kernel)), (List.mem_filter.mpr ⟨List.mem_append_left _ (by decide +kernel), by decide +kernel⟩), (zTb_in 151 (by decide +kernel) (by decide +kernel)), (zTb_in 1738 (by decide +kernel) (by decide +kernel)), by decide +kernel, by decide +kernel⟩
theorem lv_M_256 : zLv "DebtDoorsModel" 256 y_M_readPart 1 12 := ⟨⟨(zTb_in 1735 (by decide +kernel) (by decide +kernel)), m_M_readPart.1, m_M_readPart.2.1, m_M_readPart.2.2⟩, _, rfl, rfl⟩
def y_M_readTerm : zMt := (⟨"DebtDoorsModel", "readTerm", "(I)V"⟩, prog_14_method_56_code, 2, none)
theorem d_M_readTerm_0 : decode prog_14_method_56_code 0 = .ok (.aload_n 0, 1) := by decide +kernel
theorem d_M_readTerm_1 : decode prog_14_method_56_code 1 = .ok (.iload_n 1, 1) := by decide +kernel
theorem d_M_readTerm_2 : decode prog_14_method_56_code 2 = .ok (.invokevirtual 256, 3) := by decide +kernel
theorem d_M_readTerm_5 : decode prog_14_method_56_code 5 = .ok (.aload_n 0, 1) := by decide +kernel
theorem d_M_readTerm_6 : decode prog_14_method_56_code 6 = .ok (.bipush 42, 2) := by decide +kernel
theorem d_M_readTerm_8 : decode prog_14_method_56_code 8 = .ok (.invokestatic 249, 3) := by decide +kernel
theorem d_M_readTerm_11 : decode prog_14_method_56_code 11 = .ok (.invokevirtual 210, 3) := by decide +kernel
theorem d_M_readTerm_14 : decode prog_14_method_56_code 14 = .ok (.ifCond .ne 27, 3) := by decide +kernel
theorem d_M_readTerm_17 : decode prog_14_method_56_code 17 = .ok (.aload_n 0, 1) := by decide +kernel
theorem d_M_readTerm_18 : decode prog_14_method_56_code 18 = .ok (.bipush 47, 2) := by decide +kernel
theorem d_M_readTerm_20 : decode prog_14_method_56_code 20 = .ok (.invokestatic 249, 3) := by decide +kernel
theorem d_M_readTerm_23 : decode prog_14_method_56_code 23 = .ok (.invokevirtual 210, 3) := by decide +kernel
theorem d_M_readTerm_26 : decode prog_14_method_56_code 26 = .ok (.ifCond .ne 15, 3) := by decide +kernel
theorem d_M_readTerm_29 : decode prog_14_method_56_code 29 = .ok (.aload_n 0, 1) := by decide +kernel
theorem d_M_readTerm_30 : decode prog_14_method_56_code 30 = .ok (.bipush 37, 2) := by decide +kernel
theorem d_M_readTerm_32 : decode prog_14_method_56_code 32 = .ok (.invokestatic 249, 3) := by decide +kernel
theorem d_M_readTerm_35 : decode prog_14_method_56_code 35 = .ok (.invokevirtual 210, 3) := by decide +kernel
theorem d_M_readTerm_38 : decode prog_14_method_56_code 38 = .ok (.ifCond .eq 11, 3) := by decide +kernel
theorem d_M_readTerm_41 : decode prog_14_method_56_code 41 = .ok (.aload_n 0, 1) := by decide +kernel
theorem d_M_readTerm_42 : decode prog_14_method_56_code 42 = .ok (.iload_n 1, 1) := by decide +kernel
theorem d_M_readTerm_43 : decode prog_14_method_56_code 43 = .ok (.invokevirtual 256, 3) := by decide +kernel
theorem d_M_readTerm_46 : decode prog_14_method_56_code 46 = .ok (.goto (-41), 3) := by decide +kernel
theorem d_M_readTerm_49 : decode prog_14_method_56_code 49 = .ok (.return_, 1) := by decide +kernel
def w_M_readTerm {d : Nat} (hd : 2 ≤ d) := (show SS ("DebtDoorsModel", prog_14_method_56_code, 2) (none) d 0 0 0 0 _ from (sS (p1 := 5) (sV (xVv lv_M_256 (xA (rAi (rAr rA0 (rAn 0 d_M_readTerm_0 rfl)) (rIn 1 d_M_readTerm_1 rfl))) (by decide) d_M_readTerm_2)) (sS (p1 := 49) (sLp (ps := 5) (tt := 41) (pn := 49) (p1 := 0) (p2 := 0) (xOr (mm := 29) (xOr (mm := 17) (xJ1 (tgt := 41) k_ne (xV lv_M_210 (xA (rAi (rAr rA0 (rAn 0 d_M_readTerm_5 rfl)) (rS p_M_sign (Nat.le_trans (Nat.le_of_ble_eq_true rfl) hd) ls_M_249 (rAi rA0 (rB d_M_readTerm_6 rfl)) (by decide) d_M_readTerm_8))) (by decide) d_M_readTerm_11) d_M_readTerm_14 (by decide)) (xJ1 (tgt := 41) k_ne (xV lv_M_210 (xA (rAi (rAr rA0 (rAn 0 d_M_readTerm_17 rfl)) (rS p_M_sign (Nat.le_trans (Nat.le_of_ble_eq_true rfl) hd) ls_M_249 (rAi rA0 (rB d_M_readTerm_18 rfl)) (by decide) d_M_readTerm_20))) (by decide) d_M_readTerm_23) d_M_readTerm_26 (by decide))) (xNot (xJ1 (tgt := 49) k_eq (xV lv_M_210 (xA (rAi (rAr rA0 (rAn 0 d_M_readTerm_29 rfl)) (rS p_M_sign (Nat.le_trans (Nat.le_of_ble_eq_true rfl) hd) ls_M_249 (rAi rA0 (rB d_M_readTerm_30 rfl)) (by decide) d_M_readTerm_32))) (by decide) d_M_readTerm_35) d_M_readTerm_38 (by decide)))) (sGo (pn := 5) (sV (xVv lv_M_256 (xA (rAi (rAr rA0 (rAn 0 d_M_readTerm_41 rfl)) (rIn 1 d_M_readTerm_42 rfl))) (by decide) d_M_readTerm_43)) d_M_readTerm_46 (by decide)) s0) (sRv d_M_readTerm_49 rfl))))
theorem m_M_readTerm : Cond.instanceMethod y_M_readTerm.1 ∈ zTb ∧ Cond.selects y_M_readTerm.1.cls y_M_readTerm.1 y_M_readTerm.1 ∈ zTb ∧ Cond.initialized y_M_readTerm.1.cls ∈ zTb ∧ Cond.code y_M_readTerm.1 y_M_readTerm.2.1 y_M_readTerm.2.2.1 y_M_readTerm.2.2.2 ∈ zTb ∧ (y_M_readTerm.1.cls ≠ "java/lang/invoke/MethodHandle" ∧ y_M_readTerm.1.cls ≠ "java/lang/invoke/VarHandle" ∧ (parseMethodDescriptor y_M_readTerm.1.desc).map (fun d => d.parameters.length) = some 1) ∧ y_M_readTerm.2.2.1 ≤ 20 :=
  ⟨(zTb_in 1733 (by decide +kernel) (by decide +kernel)), (List.mem_filter.mpr ⟨List.mem_append_left _ (by decide +kernel), by decide +kernel⟩), (zTb_in 151 (by decide +kernel) (by decide +kernel)), (zTb_in 1734 (by decide +kernel) (by decide +kernel)), by decide +kernel, by decide +kernel⟩
theorem lv_M_253 : zLv "DebtDoorsModel" 253 y_M_readTerm 1 12 := ⟨⟨(zTb_in 1731 (by decide +kernel) (by decide +kernel)), m_M_readTerm.1, m_M_readTerm.2.1, m_M_readTerm.2.2⟩, _, rfl, rfl⟩
theorem d_M_readSum_0 : decode prog_14_method_55_code 0 = .ok (.aload_n 0, 1) := by decide +kernel
theorem d_M_readSum_1 : decode prog_14_method_55_code 1 = .ok (.iload_n 1, 1) := by decide +kernel
theorem d_M_readSum_2 : decode prog_14_method_55_code 2 = .ok (.invokevirtual 253, 3) := by decide +kernel
theorem d_M_readSum_5 : decode prog_14_method_55_code 5 = .ok (.aload_n 0, 1) := by decide +kernel
theorem d_M_readSum_6 : decode prog_14_method_55_code 6 = .ok (.bipush 43, 2) := by decide +kernel
theorem d_M_readSum_8 : decode prog_14_method_55_code 8 = .ok (.invokestatic 249, 3) := by decide +kernel
theorem d_M_readSum_11 : decode prog_14_method_55_code 11 = .ok (.invokevirtual 210, 3) := by decide +kernel
theorem d_M_readSum_14 : decode prog_14_method_55_code 14 = .ok (.ifCond .ne 15, 3) := by decide +kernel
theorem d_M_readSum_17 : decode prog_14_method_55_code 17 = .ok (.aload_n 0, 1) := by decide +kernel
theorem d_M_readSum_18 : decode prog_14_method_55_code 18 = .ok (.bipush 45, 2) := by decide +kernel
theorem d_M_readSum_20 : decode prog_14_method_55_code 20 = .ok (.invokestatic 249, 3) := by decide +kernel
theorem d_M_readSum_23 : decode prog_14_method_55_code 23 = .ok (.invokevirtual 210, 3) := by decide +kernel
theorem d_M_readSum_26 : decode prog_14_method_55_code 26 = .ok (.ifCond .eq 11, 3) := by decide +kernel
theorem d_M_readSum_29 : decode prog_14_method_55_code 29 = .ok (.aload_n 0, 1) := by decide +kernel
theorem d_M_readSum_30 : decode prog_14_method_55_code 30 = .ok (.iload_n 1, 1) := by decide +kernel
theorem d_M_readSum_31 : decode prog_14_method_55_code 31 = .ok (.invokevirtual 253, 3) := by decide +kernel
theorem d_M_readSum_34 : decode prog_14_method_55_code 34 = .ok (.goto (-29), 3) := by decide +kernel
theorem d_M_readSum_37 : decode prog_14_method_55_code 37 = .ok (.return_, 1) := by decide +kernel
def w_M_readSum {d : Nat} (hd : 2 ≤ d) := (show SS ("DebtDoorsModel", prog_14_method_55_code, 2) (none) d 0 0 0 0 _ from (sS (p1 := 5) (sV (xVv lv_M_253 (xA (rAi (rAr rA0 (rAn 0 d_M_readSum_0 rfl)) (rIn 1 d_M_readSum_1 rfl))) (by decide) d_M_readSum_2)) (sS (p1 := 37) (sLp (ps := 5) (tt := 29) (pn := 37) (p1 := 0) (p2 := 0) (xOr (mm := 17) (xJ1 (tgt := 29) k_ne (xV lv_M_210 (xA (rAi (rAr rA0 (rAn 0 d_M_readSum_5 rfl)) (rS p_M_sign (Nat.le_trans (Nat.le_of_ble_eq_true rfl) hd) ls_M_249 (rAi rA0 (rB d_M_readSum_6 rfl)) (by decide) d_M_readSum_8))) (by decide) d_M_readSum_11) d_M_readSum_14 (by decide)) (xNot (xJ1 (tgt := 37) k_eq (xV lv_M_210 (xA (rAi (rAr rA0 (rAn 0 d_M_readSum_17 rfl)) (rS p_M_sign (Nat.le_trans (Nat.le_of_ble_eq_true rfl) hd) ls_M_249 (rAi rA0 (rB d_M_readSum_18 rfl)) (by decide) d_M_readSum_20))) (by decide) d_M_readSum_23) d_M_readSum_26 (by decide)))) (sGo (pn := 5) (sV (xVv lv_M_253 (xA (rAi (rAr rA0 (rAn 0 d_M_readSum_29 rfl)) (rIn 1 d_M_readSum_30 rfl))) (by decide) d_M_readSum_31)) d_M_readSum_34 (by decide)) s0) (sRv d_M_readSum_37 rfl))))
theorem q_M_readPart {d ds : Nat} (hd : 6 ≤ d) (hds : ds + 1 ≤ d) {Q : zTk} {o : Bool} {S : Option Pr} {b : Int} (hb : 0 ≤ b ∧ b ≤ 8) (hQ : okK Q) (hn : S = none → b = 8) (hs : ∀ s, S = some s → b < 8 ∧ MCT ds y_M_readSum [vi (b + 1)] Q o s) : MCT d y_M_readPart [vi b] Q o (pPart o Q.1 Q.2.1 S) := by
  refine ⟨fun μ t l w h hl => ?_, fun μ h => ?_⟩
  · refine zSp.ss [vr 355, vi b, vx 0] rfl (w_M_readPart (Nat.le_trans (by decide) hd)) rfl rfl ?_
    (try simp only [zit_e, Bool.and_eq_true, Bool.or_eq_true, Bool.not_eq_true', Bool.and_eq_false_iff, Bool.or_eq_false_iff, Bool.not_eq_false', zbe, zdt, zdf, zb2_p, zbp_0, zbp_1, zbp_inj, zbp_01, Bool.true_eq_false, Bool.false_eq_true, true_and, and_true, Decidable.not_not, Classical.not_not, implies_true, List.nil_append, List.cons_append, List.append_assoc, Option.some.injEq, Sum.inl.injEq, zSw_c, zSw_n]); (try simp only [zit_e, Bool.and_eq_true, Bool.or_eq_true, Bool.not_eq_true', Bool.and_eq_false_iff, Bool.or_eq_false_iff, Bool.not_eq_false', zbe, zdt, zdf, zb2_p, zbp_0, zbp_1, zbp_inj, zbp_01, Bool.true_eq_false, Bool.false_eq_true, true_and, and_true, Decidable.not_not, Classical.not_not, implies_true, List.nil_append, List.cons_append, List.append_assoc, Option.some.injEq, Sum.inl.injEq, zSw_c, zSw_n, zc_355, f_M_fine, g_M_fine, f_M_sign, g_M_sign, f_M_isValue, g_M_isValue]); (try simp only [zi_cs, zi_c0, zii_cs, zii_c0, zl_cs, zl_c0, zll_cs, zll_c0, zr_cs, zr_c0, zrr_cs, zrr_c0, zxs_cs, zxs_c0, zxx_cs, zxx_c0, zfree_c0, zfree_c1, zfree_cs, zfree_cz, zlong_i, zlong_r, zlong_x, zset_0, zset_s, true_and, and_true, Option.some.injEq, Sum.inl.injEq, Sum.inr.injEq, zb2_p, zbp_0, zbp_1, zbp_inj, zbp_01, Nat.zero_add, Nat.reduceAdd, implies_true, List.nil_append, List.cons_append, List.append_assoc, Int.not_lt, Int.not_le, Decidable.not_not, Int.zero_add, Int.reduceLE, Int.reduceLT, Int.reduceEq, Int.reduceNe, Int.reduceAdd, Int.reduceSub, Int.reduceMul, Int.reduceNeg, Int.reduceToNat, Nat.reduceMul, Nat.reduceLT, Nat.reduceEqDiff, and_self, ite_true, ite_false, zx1, zx2, zRecv, List.length_cons, List.length_nil, ne_eq, not_true_eq_false, not_false_eq_true, true_or, or_true, or_false, false_or, and_false, false_and, zf01, zf10, reduceCtorEq, zSw_c, zSw_n, zm_r, zit_T, zit_F, false_implies, true_implies, zc_355, f_M_fine, g_M_fine, f_M_sign, g_M_sign, f_M_isValue, g_M_isValue])
    have ha := MSt_at hQ h
    rw [ha.2.1, ha.2.2.1, if_neg (fun q => q h.2.2.2.1)]
    refine ⟨by omega, ?_⟩
    refine zif (fun c => ?_) (fun c => ?_)
    · cases S with
      | none =>
        have hpp : pPart o Q.1 Q.2.1 none t l w = (t, none) := by
          unfold pPart
          rw [if_pos c]
        rw [if_pos (hn rfl)]
        refine fa_w (by omega) hQ h (fun μ1 a1 a2 => ⟨rfl, ?_⟩)
        rw [if_pos (bad_n hQ a1)]
        exact MP_n hpp a1 a2
      | some s =>
        obtain ⟨hb8, hc⟩ := hs s rfl
        have hpp : pPart o Q.1 Q.2.1 (some s) t l w = (match s (t + 1) l w with
          | (t1, none) => (t1, none)
          | (t1, some r) => if Q.1 t1 = 193 then (t1 + 1, some r) else (t1, none)) := by
          unfold pPart
          rw [if_pos c]
          rfl
        rw [if_neg (by omega), if_neg (fun q => q h.2.2.2.1)]
        obtain ⟨g1, g2⟩ := MSt_go hQ h (by rw [c]; decide)
        refine ⟨by ((try simp only [zI_e]); (first | done | omega | skip)), zI_s (by omega) (by omega), zCw.use (hc.1 _ (t + 1) l w g1 hl) hds (fun r μ2 e => ?_)⟩
        obtain ⟨rfl, e1, e2⟩ := e
        refine ⟨rfl, ?_⟩
        rcases hs1 : s (t + 1) l w with ⟨t1, _ | ⟨l1, m1, c1⟩⟩
        · obtain ⟨f1, f2⟩ := e1 _ hs1
          rw [hs1] at hpp
          exact mu_n (by omega) (bad_n hQ f1) ⟨rfl, MP_n hpp f1 (g2.tr f2)⟩
        · obtain ⟨f1, f2⟩ := e2 _ _ _ _ hs1
          rw [hs1] at hpp
          dsimp only at hpp
          refine mu_w (by omega) hQ f1 (by decide) (fun c2 μ3 a1 a2 => ⟨rfl, ?_⟩) (fun c2 μ3 a1 a2 => ⟨rfl, ?_⟩)
          · rw [if_pos c2] at hpp
            exact MP_s hpp a1 ((g2.tr f2).tr a2)
          · rw [if_neg c2] at hpp
            exact MP_n hpp a1 ((g2.tr f2).tr a2)
    have h8 : μ 355 8 = 0 ∨ μ 355 8 = 1 := by
      rw [h.2.2.2.2.1]
      cases o <;> simp
    refine ⟨⟨fun _ => by omega, fun _ => h8⟩, ?_⟩
    have hv := hQ.2.2.1
    have h8o := h.2.2.2.2.1
    refine zif (fun c2 => ?_) (fun c2 => ?_)
    · have hc0 : Q.1 t ≠ 0 := by
        intro q
        rw [q] at c2
        split at c2 <;> omega
      refine le_w (by omega) hQ h hl hc0 (fun hl2 μ1 a1 a2 => ⟨rfl, ?_⟩) (fun hl2 μ1 a1 a2 => ⟨rfl, ?_⟩)
      · have a8 := a1.2.2.2.2.1
        cases o with
        | false =>
          rw [if_neg (by decide)] at a8 h8o
          rw [if_neg (by omega), if_neg (by omega)]
          rw [if_neg (by omega)] at c2
          by_cases q : Q.1 t = 50
          · refine MP_s (m := fun _ => some (Q.2.1 t)) (c := [4096 + Q.2.1 t]) ?_ a1 a2
            unfold pPart
            rw [if_neg c, if_neg (by omega), if_pos q, if_pos (by omega)]
          · refine MP_s (m := fun W => some (W (Q.1 t - 9))) (c := [8192 + (Q.1 t - 9)]) ?_ a1 a2
            unfold pPart
            rw [if_neg c, if_neg (by omega), if_neg q, if_neg (by decide), if_pos (by omega)]
        | true =>
          rw [if_pos rfl] at a8 h8o
          rw [if_pos (by omega)] at c2
          have hpp : pPart true Q.1 Q.2.1 S t l w = if Q.1 t = 50 then (if Q.2.1 t ≤ 1000 then (t + 1, some (l + 1, fun _ => some (Q.2.1 t), [4096 + Q.2.1 t])) else (t, none)) else (if Q.1 t = 17 ∨ (19 ≤ Q.1 t ∧ Q.1 t ≤ 21) then (t + 1, some (l + 1, fun W => some (W (ordI (Q.1 t))), [8192 + ordI (Q.1 t)]))
              else if Q.1 t = 22 ∨ Q.1 t = 23 then
                (if Q.1 (t + 1) = 50 ∧ Q.2.1 (t + 1) ≤ 6 then
                    (if Q.1 t = 22 then (t + 2, some (l + 1, fun W => some (W (4 + Q.2.1 (t + 1))), [8192 + (4 + Q.2.1 (t + 1))]))
                    else if Q.1 (t + 2) = 50 ∧ Q.2.1 (t + 2) ≤ 6 then (t + 3, some (l + 1, fun W => some (W (11 + 7 * Q.2.1 (t + 1) + Q.2.1 (t + 2))), [8192 + (11 + 7 * Q.2.1 (t + 1) + Q.2.1 (t + 2))]))
                    else (t + 2, none))
                  else (t + 1, none))
              else (t, none)) := by
            unfold pPart
            rw [if_neg c, if_neg (by omega), if_pos rfl]
          generalize pPart true Q.1 Q.2.1 S t l w = R at *
          by_cases q2 : Q.1 t = 22 ∨ Q.1 t = 23
          · rw [if_neg (by omega), if_neg (by omega), if_pos q2] at hpp
            rw [if_pos ⟨by omega, q2⟩]
            refine mn_w (by omega) hQ a1 (fun c5 μ2 b1 b2 => ⟨rfl, ?_⟩) (fun c5 μ2 b1 b2 => ⟨rfl, ?_⟩)
            · rw [if_pos ⟨c5.1, c5.2.2⟩] at hpp
              have b8 := b1.2.2.2.2.1
              rw [if_pos rfl] at b8
              by_cases q3 : Q.1 t = 22
              · rw [if_pos q3] at hpp
                rw [if_neg (by omega)]
                exact MP_s hpp b1 (a2.tr b2)
              · rw [if_neg q3] at hpp
                rw [if_pos ⟨by omega, by omega⟩]
                refine mn_w (by omega) hQ b1 (fun c6 μ3 e1 e2 => ⟨rfl, ?_⟩) (fun c6 μ3 e1 e2 => ⟨rfl, ?_⟩)
                · rw [if_pos ⟨c6.1, c6.2.2⟩] at hpp
                  exact MP_s hpp e1 ((a2.tr b2).tr e2)
                · rw [if_neg (fun z => c6 ⟨z.1, hv _, z.2⟩)] at hpp
                  exact MP_n hpp e1 ((a2.tr b2).tr e2)
            · rw [if_neg (fun z => c5 ⟨z.1, hv _, z.2⟩)] at hpp
              have hnf := bad_n hQ b1
              refine zif (fun _ => mn_n (by omega) hnf ⟨rfl, MP_n hpp b1 (a2.tr b2)⟩) (fun _ => MP_n hpp b1 (a2.tr b2))
          · rw [if_neg (by omega), if_neg (by omega)]
            by_cases q : Q.1 t = 50
            · rw [if_pos q, if_pos (by omega)] at hpp
              exact MP_s hpp a1 a2
            · rw [if_neg q, if_pos (by omega)] at hpp
              exact MP_s hpp a1 a2
      · have hpp : pPart o Q.1 Q.2.1 S t l w = (t, none) := by
          unfold pPart
          rw [if_neg c, if_pos (by omega)]
        have hnf := bad_n hQ a1
        refine zif (fun _ => mn_n (by omega) hnf ⟨rfl, ?_⟩) (fun _ => ?_)
        · exact zif (fun _ => mn_n (by omega) hnf ⟨rfl, MP_n hpp a1 a2⟩) (fun _ => MP_n hpp a1 a2)
        · exact zif (fun _ => mn_n (by omega) hnf ⟨rfl, MP_n hpp a1 a2⟩) (fun _ => MP_n hpp a1 a2)
    · have hpp : pPart o Q.1 Q.2.1 S t l w = (t, none) := by
        unfold pPart
        rw [if_neg c]
        by_cases q : 50 ≤ l
        · rw [if_pos q]
        rw [if_neg q]
        by_cases q5 : Q.1 t = 50
        · rw [if_pos q5, if_neg (by omega)]
        rw [if_neg q5]
        cases o with
        | true =>
          rw [if_pos rfl] at h8o
          rw [if_pos (by omega)] at c2
          rw [if_pos rfl, if_neg (by omega), if_neg (by omega)]
        | false =>
          rw [if_neg (by decide)] at h8o
          rw [if_neg (by omega)] at c2
          rw [if_neg (by decide), if_neg (by omega)]
      exact fa_w (by omega) hQ h (fun μ1 a1 a2 => ⟨rfl, MP_n hpp a1 a2⟩)
  · refine zSp.ss [vr 355, vi b, vx 0] rfl (w_M_readPart (Nat.le_trans (by decide) hd)) rfl rfl ?_
    (try simp only [zit_e, Bool.and_eq_true, Bool.or_eq_true, Bool.not_eq_true', Bool.and_eq_false_iff, Bool.or_eq_false_iff, Bool.not_eq_false', zbe, zdt, zdf, zb2_p, zbp_0, zbp_1, zbp_inj, zbp_01, Bool.true_eq_false, Bool.false_eq_true, true_and, and_true, Decidable.not_not, Classical.not_not, implies_true, List.nil_append, List.cons_append, List.append_assoc, Option.some.injEq, Sum.inl.injEq, zSw_c, zSw_n]); (try simp only [zit_e, Bool.and_eq_true, Bool.or_eq_true, Bool.not_eq_true', Bool.and_eq_false_iff, Bool.or_eq_false_iff, Bool.not_eq_false', zbe, zdt, zdf, zb2_p, zbp_0, zbp_1, zbp_inj, zbp_01, Bool.true_eq_false, Bool.false_eq_true, true_and, and_true, Decidable.not_not, Classical.not_not, implies_true, List.nil_append, List.cons_append, List.append_assoc, Option.some.injEq, Sum.inl.injEq, zSw_c, zSw_n, zc_355, f_M_fine, g_M_fine, f_M_sign, g_M_sign, f_M_isValue, g_M_isValue]); (try simp only [zi_cs, zi_c0, zii_cs, zii_c0, zl_cs, zl_c0, zll_cs, zll_c0, zr_cs, zr_c0, zrr_cs, zrr_c0, zxs_cs, zxs_c0, zxx_cs, zxx_c0, zfree_c0, zfree_c1, zfree_cs, zfree_cz, zlong_i, zlong_r, zlong_x, zset_0, zset_s, true_and, and_true, Option.some.injEq, Sum.inl.injEq, Sum.inr.injEq, zb2_p, zbp_0, zbp_1, zbp_inj, zbp_01, Nat.zero_add, Nat.reduceAdd, implies_true, List.nil_append, List.cons_append, List.append_assoc, Int.not_lt, Int.not_le, Decidable.not_not, Int.zero_add, Int.reduceLE, Int.reduceLT, Int.reduceEq, Int.reduceNe, Int.reduceAdd, Int.reduceSub, Int.reduceMul, Int.reduceNeg, Int.reduceToNat, Nat.reduceMul, Nat.reduceLT, Nat.reduceEqDiff, and_self, ite_true, ite_false, zx1, zx2, zRecv, List.length_cons, List.length_nil, ne_eq, not_true_eq_false, not_false_eq_true, true_or, or_true, or_false, false_or, and_false, false_and, zf01, zf10, reduceCtorEq, zSw_c, zSw_n, zm_r, zit_T, zit_F, false_implies, true_implies, zc_355, f_M_fine, g_M_fine, f_M_sign, g_M_sign, f_M_isValue, g_M_isValue])
    rw [if_pos h]
    trivial
theorem q_M_readTerm {d dp : Nat} (hd : 6 ≤ d) (hdp : dp + 1 ≤ d) {Q : zTk} {o : Bool} {pp : Pr} {b : Int} (hQ : okK Q) (hG : PG Q.1 Q.2.2.2 pp) (hp : MCT dp y_M_readPart [vi b] Q o pp) : MCT d y_M_readTerm [vi b] Q o (pRow Q.1 oTerm false pp) := by
  refine ⟨fun μ t l w h hl => ?_, fun μ h => ?_⟩
  · refine zSp.ss [vr 355, vi b] rfl (w_M_readTerm (Nat.le_trans (by decide) hd)) rfl rfl ?_
    (try simp only [zit_e, Bool.and_eq_true, Bool.or_eq_true, Bool.not_eq_true', Bool.and_eq_false_iff, Bool.or_eq_false_iff, Bool.not_eq_false', zbe, zdt, zdf, zb2_p, zbp_0, zbp_1, zbp_inj, zbp_01, Bool.true_eq_false, Bool.false_eq_true, true_and, and_true, Decidable.not_not, Classical.not_not, implies_true, List.nil_append, List.cons_append, List.append_assoc, Option.some.injEq, Sum.inl.injEq, zSw_c, zSw_n]); (try simp only [zit_e, Bool.and_eq_true, Bool.or_eq_true, Bool.not_eq_true', Bool.and_eq_false_iff, Bool.or_eq_false_iff, Bool.not_eq_false', zbe, zdt, zdf, zb2_p, zbp_0, zbp_1, zbp_inj, zbp_01, Bool.true_eq_false, Bool.false_eq_true, true_and, and_true, Decidable.not_not, Classical.not_not, implies_true, List.nil_append, List.cons_append, List.append_assoc, Option.some.injEq, Sum.inl.injEq, zSw_c, zSw_n, zc_355, f_M_sign, g_M_sign]); (try simp only [zi_cs, zi_c0, zii_cs, zii_c0, zl_cs, zl_c0, zll_cs, zll_c0, zr_cs, zr_c0, zrr_cs, zrr_c0, zxs_cs, zxs_c0, zxx_cs, zxx_c0, zfree_c0, zfree_c1, zfree_cs, zfree_cz, zlong_i, zlong_r, zlong_x, zset_0, zset_s, true_and, and_true, Option.some.injEq, Sum.inl.injEq, Sum.inr.injEq, zb2_p, zbp_0, zbp_1, zbp_inj, zbp_01, Nat.zero_add, Nat.reduceAdd, implies_true, List.nil_append, List.cons_append, List.append_assoc, Int.not_lt, Int.not_le, Decidable.not_not, Int.zero_add, Int.reduceLE, Int.reduceLT, Int.reduceEq, Int.reduceNe, Int.reduceAdd, Int.reduceSub, Int.reduceMul, Int.reduceNeg, Int.reduceToNat, Nat.reduceMul, Nat.reduceLT, Nat.reduceEqDiff, and_self, ite_true, ite_false, zx1, zx2, zRecv, List.length_cons, List.length_nil, ne_eq, not_true_eq_false, not_false_eq_true, true_or, or_true, or_false, false_or, and_false, false_and, zf01, zf10, reduceCtorEq, zSw_c, zSw_n, zm_r, zit_T, zit_F, false_implies, true_implies, zc_355, f_M_sign, g_M_sign])
    refine zCw.use (hp.1 μ t l w h hl) hdp (fun r μ1 e => ?_)
    obtain ⟨rfl, e1, e2⟩ := e
    refine ⟨rfl, ?_⟩
    have hg := hG t l w hl h.2.2.2.2.2
    generalize hR : pRow Q.1 oTerm false pp t l w = R
    refine zLoop.mk (fun k ρ μ2 => ρ = [vr 355, vi b] ∧ ((∃ t1, R = (t1, none) ∧ μ2 355 19 = Q.2.2.1 t1 ∧ FM μ μ2 ∧ k = 0) ∨ ∃ (t1 l1 f : Nat) (m1 : Mn) (cc : List Int), MSt Q o t1 l1 μ2 ∧ l1 ≤ 50 ∧ FM μ μ2 ∧ Q.2.2.2 ≤ t1 + f ∧ R = pCat cc (pLoop Q.1 oTerm false pp f m1 t1 l1 (w + cc.length)) ∧ k = Q.2.2.2 + 1 - t1)) (match pp t l w with
      | (t1, none) => 0
      | (t1, some _) => Q.2.2.2 + 1 - t1) ⟨rfl, ?_⟩ ?_
    · rcases h1 : pp t l w with ⟨t1, _ | ⟨l1, m1, c1⟩⟩
      · left
        rw [pRow_n h1] at hR
        exact ⟨t1, hR.symm, (e1 _ h1).1, (e1 _ h1).2, rfl⟩
      · right
        have hg1 := hg.2 _ _ _ _ h1
        have hQ1 := hQ.1
        rw [pRow_s h1] at hR
        exact ⟨t1, l1, 400, m1, c1, (e2 _ _ _ _ h1).1, hg1.2.2.2.1, (e2 _ _ _ _ h1).2, by omega, hR.symm, rfl⟩
    clear hR e1 e2 hg
    rintro k ρ μ2 ⟨rfl, ⟨t1, hR, hb1, hF, rfl⟩ | ⟨t1, l1, f, m1, cc, hM, hl1, hF, hf, hR, rfl⟩⟩
    · have hnf := bad_n hQ hb1
      (try simp only [zit_e, Bool.and_eq_true, Bool.or_eq_true, Bool.not_eq_true', Bool.and_eq_false_iff, Bool.or_eq_false_iff, Bool.not_eq_false', zbe, zdt, zdf, zb2_p, zbp_0, zbp_1, zbp_inj, zbp_01, Bool.true_eq_false, Bool.false_eq_true, true_and, and_true, Decidable.not_not, Classical.not_not, implies_true, List.nil_append, List.cons_append, List.append_assoc, Option.some.injEq, Sum.inl.injEq, zSw_c, zSw_n]); (try simp only [zit_e, Bool.and_eq_true, Bool.or_eq_true, Bool.not_eq_true', Bool.and_eq_false_iff, Bool.or_eq_false_iff, Bool.not_eq_false', zbe, zdt, zdf, zb2_p, zbp_0, zbp_1, zbp_inj, zbp_01, Bool.true_eq_false, Bool.false_eq_true, true_and, and_true, Decidable.not_not, Classical.not_not, implies_true, List.nil_append, List.cons_append, List.append_assoc, Option.some.injEq, Sum.inl.injEq, zSw_c, zSw_n, zc_355, f_M_sign, g_M_sign]); (try simp only [zi_cs, zi_c0, zii_cs, zii_c0, zl_cs, zl_c0, zll_cs, zll_c0, zr_cs, zr_c0, zrr_cs, zrr_c0, zxs_cs, zxs_c0, zxx_cs, zxx_c0, zfree_c0, zfree_c1, zfree_cs, zfree_cz, zlong_i, zlong_r, zlong_x, zset_0, zset_s, true_and, and_true, Option.some.injEq, Sum.inl.injEq, Sum.inr.injEq, zb2_p, zbp_0, zbp_1, zbp_inj, zbp_01, Nat.zero_add, Nat.reduceAdd, implies_true, List.nil_append, List.cons_append, List.append_assoc, Int.not_lt, Int.not_le, Decidable.not_not, Int.zero_add, Int.reduceLE, Int.reduceLT, Int.reduceEq, Int.reduceNe, Int.reduceAdd, Int.reduceSub, Int.reduceMul, Int.reduceNeg, Int.reduceToNat, Nat.reduceMul, Nat.reduceLT, Nat.reduceEqDiff, and_self, ite_true, ite_false, zx1, zx2, zRecv, List.length_cons, List.length_nil, ne_eq, not_true_eq_false, not_false_eq_true, true_or, or_true, or_false, false_or, and_false, false_and, zf01, zf10, reduceCtorEq, zSw_c, zSw_n, zm_r, zit_T, zit_F, false_implies, true_implies, zc_355, f_M_sign, g_M_sign])
      refine t0_n (by omega) hnf ⟨_, rfl, ?_⟩
      rw [if_neg (by decide)]
      refine t0_n (by omega) hnf ⟨_, rfl, ?_⟩
      rw [if_neg (by decide)]
      refine t0_n (by omega) hnf ⟨_, rfl, ?_⟩
      rw [if_neg (by decide)]
      exact MP_n hR hb1 hF
    · have hgo : ∀ μ3, ¬ oTerm (Q.1 t1) = 0 → MSt Q o (t1 + 1) l1 μ3 → FM μ μ3 → zCw d y_M_readPart [vr 355, vi b] μ3 (fun q μ2 => q = none ∧ ∃ m', m' < Q.2.2.2 + 1 - t1 ∧ ((∃ t1, R = (t1, none) ∧ μ2 355 19 = Q.2.2.1 t1 ∧ FM μ μ2 ∧ m' = 0) ∨ ∃ (t1 l1 f : Nat) (m1 : Mn) (cc : List Int), MSt Q o t1 l1 μ2 ∧ l1 ≤ 50 ∧ FM μ μ2 ∧ Q.2.2.2 ≤ t1 + f ∧ R = pCat cc (pLoop Q.1 oTerm false pp f m1 t1 l1 (w + cc.length)) ∧ m' = Q.2.2.2 + 1 - t1)) := by
        intro μ3 hop a1 a2
        have htn : t1 < Q.2.2.2 := zNlt (c := Q.1) hQ.2.1 (fun q => hop (by rw [q]; rfl))
        obtain ⟨g, rfl⟩ : ∃ g, f = g + 1 := ⟨f - 1, by omega⟩
        refine zCw.use (hp.1 μ3 (t1 + 1) l1 (w + cc.length ) a1 hl1) hdp (fun r μ4 e => ?_)
        obtain ⟨rfl, e1, e2⟩ := e
        refine ⟨rfl, ?_⟩
        have hg := hG (t1 + 1) l1 (w + cc.length ) hl1 htn
        rcases h1 : pp (t1 + 1) l1 (w + cc.length ) with ⟨t2, _ | ⟨l2, m2, c2⟩⟩
        · rw [pLoop_n hop h1] at hR
          exact ⟨0, by omega, Or.inl ⟨t2, hR, (e1 _ h1).1, a2.tr (e1 _ h1).2, rfl⟩⟩
        · have hg1 := hg.2 _ _ _ _ h1
          rw [pLoop_s hop h1, pCat_cat] at hR
          refine ⟨_, ?_, Or.inr ⟨t2, l2, g, mOp (oTerm (Q.1 t1)) m1 m2, cc ++ (c2 ++ [oTerm (Q.1 t1) * 4096]), (e2 _ _ _ _ h1).1, hg1.2.2.2.1, a2.tr (e2 _ _ _ _ h1).2, by omega, ?_, rfl⟩⟩
          · omega
          · rw [hR]
            simp only [List.length_append, List.length_cons, List.length_nil, Bool.false_eq_true, if_false]
            congr 2
            omega
      (try simp only [zit_e, Bool.and_eq_true, Bool.or_eq_true, Bool.not_eq_true', Bool.and_eq_false_iff, Bool.or_eq_false_iff, Bool.not_eq_false', zbe, zdt, zdf, zb2_p, zbp_0, zbp_1, zbp_inj, zbp_01, Bool.true_eq_false, Bool.false_eq_true, true_and, and_true, Decidable.not_not, Classical.not_not, implies_true, List.nil_append, List.cons_append, List.append_assoc, Option.some.injEq, Sum.inl.injEq, zSw_c, zSw_n]); (try simp only [zit_e, Bool.and_eq_true, Bool.or_eq_true, Bool.not_eq_true', Bool.and_eq_false_iff, Bool.or_eq_false_iff, Bool.not_eq_false', zbe, zdt, zdf, zb2_p, zbp_0, zbp_1, zbp_inj, zbp_01, Bool.true_eq_false, Bool.false_eq_true, true_and, and_true, Decidable.not_not, Classical.not_not, implies_true, List.nil_append, List.cons_append, List.append_assoc, Option.some.injEq, Sum.inl.injEq, zSw_c, zSw_n, zc_355, f_M_sign, g_M_sign]); (try simp only [zi_cs, zi_c0, zii_cs, zii_c0, zl_cs, zl_c0, zll_cs, zll_c0, zr_cs, zr_c0, zrr_cs, zrr_c0, zxs_cs, zxs_c0, zxx_cs, zxx_c0, zfree_c0, zfree_c1, zfree_cs, zfree_cz, zlong_i, zlong_r, zlong_x, zset_0, zset_s, true_and, and_true, Option.some.injEq, Sum.inl.injEq, Sum.inr.injEq, zb2_p, zbp_0, zbp_1, zbp_inj, zbp_01, Nat.zero_add, Nat.reduceAdd, implies_true, List.nil_append, List.cons_append, List.append_assoc, Int.not_lt, Int.not_le, Decidable.not_not, Int.zero_add, Int.reduceLE, Int.reduceLT, Int.reduceEq, Int.reduceNe, Int.reduceAdd, Int.reduceSub, Int.reduceMul, Int.reduceNeg, Int.reduceToNat, Nat.reduceMul, Nat.reduceLT, Nat.reduceEqDiff, and_self, ite_true, ite_false, zx1, zx2, zRecv, List.length_cons, List.length_nil, ne_eq, not_true_eq_false, not_false_eq_true, true_or, or_true, or_false, false_or, and_false, false_and, zf01, zf10, reduceCtorEq, zSw_c, zSw_n, zm_r, zit_T, zit_F, false_implies, true_implies, zc_355, f_M_sign, g_M_sign])
      refine t0_w (by omega) hQ hM (by decide) (fun c0 μ3 a1 a2 => ⟨_, rfl, by
        rw [if_pos (by decide)]
        exact hgo μ3 (by rw [c0]; decide) a1 (hF.tr a2)⟩) (fun c0 => ⟨_, rfl, ?_⟩)
      rw [if_neg (by decide)]
      refine t0_w (by omega) hQ hM (by decide) (fun c1 μ3 a1 a2 => ⟨_, rfl, by
        rw [if_pos (by decide)]
        exact hgo μ3 (by rw [c1]; decide) a1 (hF.tr a2)⟩) (fun c1 => ⟨_, rfl, ?_⟩)
      rw [if_neg (by decide)]
      refine t0_w (by omega) hQ hM (by decide) (fun c2 μ3 a1 a2 => ⟨_, rfl, by
        rw [if_pos (by decide)]
        exact hgo μ3 (by rw [c2]; decide) a1 (hF.tr a2)⟩) (fun c2 => ⟨_, rfl, ?_⟩)
      rw [if_neg (by decide)]
      have hop : oTerm (Q.1 t1) = 0 := by
        unfold oTerm
        rw [if_neg c0, if_neg c1, if_neg c2]
      rw [pLoop_0 hop] at hR
      exact MP_s hR hM hF
  · refine zSp.ss [vr 355, vi b] rfl (w_M_readTerm (Nat.le_trans (by decide) hd)) rfl rfl ?_
    (try simp only [zit_e, Bool.and_eq_true, Bool.or_eq_true, Bool.not_eq_true', Bool.and_eq_false_iff, Bool.or_eq_false_iff, Bool.not_eq_false', zbe, zdt, zdf, zb2_p, zbp_0, zbp_1, zbp_inj, zbp_01, Bool.true_eq_false, Bool.false_eq_true, true_and, and_true, Decidable.not_not, Classical.not_not, implies_true, List.nil_append, List.cons_append, List.append_assoc, Option.some.injEq, Sum.inl.injEq, zSw_c, zSw_n]); (try simp only [zit_e, Bool.and_eq_true, Bool.or_eq_true, Bool.not_eq_true', Bool.and_eq_false_iff, Bool.or_eq_false_iff, Bool.not_eq_false', zbe, zdt, zdf, zb2_p, zbp_0, zbp_1, zbp_inj, zbp_01, Bool.true_eq_false, Bool.false_eq_true, true_and, and_true, Decidable.not_not, Classical.not_not, implies_true, List.nil_append, List.cons_append, List.append_assoc, Option.some.injEq, Sum.inl.injEq, zSw_c, zSw_n, zc_355, f_M_sign, g_M_sign]); (try simp only [zi_cs, zi_c0, zii_cs, zii_c0, zl_cs, zl_c0, zll_cs, zll_c0, zr_cs, zr_c0, zrr_cs, zrr_c0, zxs_cs, zxs_c0, zxx_cs, zxx_c0, zfree_c0, zfree_c1, zfree_cs, zfree_cz, zlong_i, zlong_r, zlong_x, zset_0, zset_s, true_and, and_true, Option.some.injEq, Sum.inl.injEq, Sum.inr.injEq, zb2_p, zbp_0, zbp_1, zbp_inj, zbp_01, Nat.zero_add, Nat.reduceAdd, implies_true, List.nil_append, List.cons_append, List.append_assoc, Int.not_lt, Int.not_le, Decidable.not_not, Int.zero_add, Int.reduceLE, Int.reduceLT, Int.reduceEq, Int.reduceNe, Int.reduceAdd, Int.reduceSub, Int.reduceMul, Int.reduceNeg, Int.reduceToNat, Nat.reduceMul, Nat.reduceLT, Nat.reduceEqDiff, and_self, ite_true, ite_false, zx1, zx2, zRecv, List.length_cons, List.length_nil, ne_eq, not_true_eq_false, not_false_eq_true, true_or, or_true, or_false, false_or, and_false, false_and, zf01, zf10, reduceCtorEq, zSw_c, zSw_n, zm_r, zit_T, zit_F, false_implies, true_implies, zc_355, f_M_sign, g_M_sign])
    refine zCw.use (hp.2 μ h) hdp (fun r μ1 e => ?_)
    obtain ⟨rfl, rfl⟩ := e
    refine ⟨rfl, ?_⟩
    refine zLoop.mk (fun k ρ μ2 => ρ = [vr 355, vi b] ∧ μ2 = μ1) 0 ⟨rfl, rfl⟩ ?_
    rintro k ρ μ2 ⟨rfl, rfl⟩
    (try simp only [zit_e, Bool.and_eq_true, Bool.or_eq_true, Bool.not_eq_true', Bool.and_eq_false_iff, Bool.or_eq_false_iff, Bool.not_eq_false', zbe, zdt, zdf, zb2_p, zbp_0, zbp_1, zbp_inj, zbp_01, Bool.true_eq_false, Bool.false_eq_true, true_and, and_true, Decidable.not_not, Classical.not_not, implies_true, List.nil_append, List.cons_append, List.append_assoc, Option.some.injEq, Sum.inl.injEq, zSw_c, zSw_n]); (try simp only [zit_e, Bool.and_eq_true, Bool.or_eq_true, Bool.not_eq_true', Bool.and_eq_false_iff, Bool.or_eq_false_iff, Bool.not_eq_false', zbe, zdt, zdf, zb2_p, zbp_0, zbp_1, zbp_inj, zbp_01, Bool.true_eq_false, Bool.false_eq_true, true_and, and_true, Decidable.not_not, Classical.not_not, implies_true, List.nil_append, List.cons_append, List.append_assoc, Option.some.injEq, Sum.inl.injEq, zSw_c, zSw_n, zc_355, f_M_sign, g_M_sign]); (try simp only [zi_cs, zi_c0, zii_cs, zii_c0, zl_cs, zl_c0, zll_cs, zll_c0, zr_cs, zr_c0, zrr_cs, zrr_c0, zxs_cs, zxs_c0, zxx_cs, zxx_c0, zfree_c0, zfree_c1, zfree_cs, zfree_cz, zlong_i, zlong_r, zlong_x, zset_0, zset_s, true_and, and_true, Option.some.injEq, Sum.inl.injEq, Sum.inr.injEq, zb2_p, zbp_0, zbp_1, zbp_inj, zbp_01, Nat.zero_add, Nat.reduceAdd, implies_true, List.nil_append, List.cons_append, List.append_assoc, Int.not_lt, Int.not_le, Decidable.not_not, Int.zero_add, Int.reduceLE, Int.reduceLT, Int.reduceEq, Int.reduceNe, Int.reduceAdd, Int.reduceSub, Int.reduceMul, Int.reduceNeg, Int.reduceToNat, Nat.reduceMul, Nat.reduceLT, Nat.reduceEqDiff, and_self, ite_true, ite_false, zx1, zx2, zRecv, List.length_cons, List.length_nil, ne_eq, not_true_eq_false, not_false_eq_true, true_or, or_true, or_false, false_or, and_false, false_and, zf01, zf10, reduceCtorEq, zSw_c, zSw_n, zm_r, zit_T, zit_F, false_implies, true_implies, zc_355, f_M_sign, g_M_sign])
    refine t0_n (by omega) h ⟨_, rfl, ?_⟩
    rw [if_neg (by decide)]
    refine t0_n (by omega) h ⟨_, rfl, ?_⟩
    rw [if_neg (by decide)]
    refine t0_n (by omega) h ⟨_, rfl, ?_⟩
    rw [if_neg (by decide)]
    done

