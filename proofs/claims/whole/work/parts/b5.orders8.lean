/-! orders: the reference -/
def S6 (κ κ' : Int → Int) : Prop := ∀ i : Int, i ≠ 163 → ¬ (2564 ≤ i ∧ i < 2964) → ¬ (5364 ≤ i ∧ i < 5764) → κ' i = κ i
theorem LwM_6 {κ κ' : Int → Int} {f : Int} {Q : zTk} (h : LwM κ f Q) (hf : 0 ≤ f ∧ f ≤ 5) (hQ : Q.2.2.2 ≤ 400) (h1 : S6 κ κ') : LwM κ' f Q := by
  refine ⟨?_, fun u hu => ?_⟩
  · rw [h1 _ (by omega) (by omega) (by omega)]
    exact h.1
  · rw [h1 (164 + (400 * f + u)) (by omega) (by omega) (by omega), h1 (2964 + (400 * f + u)) (by omega) (by omega) (by omega)]
    exact h.2 u hu
theorem FoM_6 {μ μ' : zMem} {F : Option (List Cls)} (h : FoM μ F) (h1 : S6 (μ 357) (μ' 357)) : FoM μ' F := by
  rcases h with h | ⟨f, Q, cls, code, a, b, c, e, g⟩
  · exact Or.inl (by rw [h1 156 (by decide) (by decide) (by decide)]; exact h)
  · exact Or.inr ⟨f, Q, cls, code, by rw [h1 156 (by decide) (by decide) (by decide)]; exact a, b, c, LwM_6 e b g.1.1.1 h1, g⟩
theorem MTx_6 {μ μ' : zMem} {Z : Zt} {F : Option (List Cls)} {A : Lg} {w : Int → Int} (h : MTx μ Z F A w) (h1 : S6 (μ 357) (μ' 357)) : MTx μ' Z F A w := by
  have hn := h.n.2.2.2.2.1.2
  obtain ⟨a, b, c, e, f, g⟩ := h
  have k : ∀ i : Int, i < 163 → μ' 357 i = μ 357 i := fun i q => h1 i (by omega) (by omega) (by omega)
  refine ⟨a, b, ⟨by rw [k _ (by decide)]; exact c.1, fun i x y => by rw [k _ (by omega), k _ (by omega)]; exact c.2.1 i x y, by rw [k _ (by decide)]; exact c.2.2⟩, ⟨?_, by rw [k _ (by decide)]; exact e.2⟩, FoM_6 f h1, g⟩
  rw [← e.1]
  exact lgM_is (tL_congr (fun i x y => k i (by omega))) (dbM_c hn (fun j x y => k j (by omega))) (k 72 (by decide))
theorem TJ_6 {T : zMem} {κ κ' : Int → Int} (h : TJ T κ) (h1 : S6 κ κ') : TJ T κ' := by
  obtain ⟨a1, a2, a3, a4, a5, a6, a7, a8, ⟨p, q, r⟩, a10⟩ := h
  have k : ∀ i : Int, i < 163 → κ' i = κ i := fun i q => h1 i (by omega) (by omega) (by omega)
  exact ⟨a1.c rfl (k _ (by decide)), a2.c (fun i _ _ => rfl) (fun i _ _ => k i (by omega)), a3.c (fun i _ _ => ⟨rfl, rfl⟩) (fun i _ _ => k i (by omega)), a4.c rfl (fun i _ _ => rfl) (fun i _ _ => k i (by omega)), a5.c rfl (k _ (by decide)), a6.c rfl (k _ (by decide)), a7.c rfl (fun c _ _ i _ _ => rfl) (k _ (by decide)) (fun i _ _ => k i (by omega)), a8.c rfl (fun c _ _ i _ _ => rfl) (k _ (by decide)) (fun i _ _ => k i (by omega)), ⟨p, by rw [k 155 (by decide)]; exact q, fun f a b => (r f a b).c (by omega) (fun i _ _ => rfl) (fun Q hQ hL => LwM_6 hL (by omega) hQ h1)⟩, a10.c rfl rfl (k _ (by decide))⟩
theorem pCls_l {c : Nat → Int} {fin : Nat → Bool} {pc : Nat → Nat → Nat → PcR} : ∀ (f t l w t1 : Nat) (cs : List Cls) (cc : List Int), pCls c fin pc f t l w = (t1, some (cs, cc)) → cs.length ≤ f
  | 0, t, l, w, t1, cs, cc, e => by
    rw [pCls] at e
    cases e
  | f + 1, t, l, w, t1, cs, cc, e => by
    rcases e1 : pc t l w with ⟨t2, _ | ⟨l2, c2, d2⟩⟩
    · rw [pCls_n e1] at e
      cases e
    by_cases h9 : c t2 = 159
    · rw [pCls_s e1 h9] at e
      rcases e3 : pCls c fin pc f (t2 + 1) l2 (w + d2.length) with ⟨t3, _ | ⟨r3, c3⟩⟩
      · rw [e3] at e
        cases e
      rw [e3] at e
      have ih := pCls_l _ _ _ _ _ _ _ e3
      cases e
      simp only [List.length_append, List.length_cons, List.length_nil]
      omega
    · rw [pCls_e e1 h9] at e
      split at e
      · cases e
        simp only [List.length_cons, List.length_nil]
        omega
      · cases e
/-- where the reference's orders write -/
def OwM (μ μ' : zMem) : Prop := (∀ i : Int, 73 ≤ i → i ≠ 163 → ¬ (2564 ≤ i ∧ i < 2964) → ¬ (5364 ≤ i ∧ i < 5764) → μ' 357 i = μ 357 i) ∧ (∀ j : Int, j ≠ 0 → j ≠ 8 → j ≠ 11 → j ≠ 12 → ¬ (16 ≤ j ∧ j ≤ 23) → j ≠ 28 → ¬ (47 ≤ j ∧ j ≤ 54) → μ' 355 j = μ 355 j) ∧ zfc [355, 356, 357, 360, 364, 365, 366, 367, 368, 369, 370, 383] μ μ'
theorem pOrdC_G {Q : zTk} (hQ : okK Q) {t l w t1 l1 : Nat} {cl : Cls} {cd : List Int} (e : pOrdC Q.1 Q.2.1 t l w = (t1, some (l1, cl, cd))) (hl : l ≤ 50) : l1 ≤ 50 ∧ t1 ≤ Q.2.2.2 ∧ t < Q.2.2.2 ∧ t < t1 := by
  unfold pOrdC at e
  split at e
  rotate_left
  · cases e
  next hk =>
  have htn : t < Q.2.2.2 := zNlt (c := Q.1) hQ.2.1 (show Q.1 t ≠ 0 by omega)
  rcases e1 : p3O Q.1 Q.2.1 t l w with ⟨t2, _ | ⟨l2, ⟨a2, a3⟩, ⟨m1, m2, m3⟩, c2⟩⟩
  · rw [e1] at e
    cases e
  rw [e1] at e
  simp only at e
  rcases e2 : pTm Q.1 Q.2.1 t2 with ⟨t3, _ | kk⟩
  · rw [e2] at e
    cases e
  rw [e2] at e
  simp only at e
  rcases e3 : pMT true Q.1 Q.2.1 t3 l2 (w + c2.length) with ⟨t4, _ | ⟨l4, m4, c4⟩⟩
  · rw [e3] at e
    cases e
  rw [e3] at e
  cases e
  have h2 : l2 ≤ 50 ∧ t2 ≤ Q.2.2.2 ∧ t < t2 := by
    unfold p3O at e1
    by_cases c26 : Q.1 t = 26
    · rw [if_pos c26] at e1
      cases e1
      omega
    · rw [if_neg c26] at e1
      have := (p3S_q hQ e1 hl htn).1
      omega
  have h3 : t3 ≤ Q.2.2.2 ∧ t2 ≤ t3 := by
    unfold pTm at e2
    split at e2
    · split at e2
      · next q1 q2 =>
        have := zNlt (c := Q.1) hQ.2.1 (show Q.1 (t2 + 1) ≠ 0 by rw [q2.1]; decide)
        cases e2
        omega
      · cases e2
    · cases e2
      omega
  have h4 := pMT_G hQ e3 h2.1 h3.1
  omega
/-- one clause of those that are left -/
theorem ord_n {Q : zTk} {g t l w tE : Nat} {rest : List Cls} {cc : List Int} (hQ : okK Q) (hl : l ≤ 50) (e : pCls Q.1 (fun t => decide (Q.2.2.2 ≤ t)) (pcO true Q.1 Q.2.1) g t l w = (tE, some (rest, cc))) : t < Q.2.2.2 ∧ ∃ (t1 l1 : Nat) (cl : Cls) (cd : List Int) (r2 : List Cls), pOrdC Q.1 Q.2.1 t l w = (t1, some (l1, cl, cd)) ∧ l1 ≤ 50 ∧ t1 ≤ Q.2.2.2 ∧ rest = cl :: r2 ∧ ((r2 = [] ∧ Q.2.2.2 ≤ t1) ∨ ∃ (g2 w2 : Nat) (c2 : List Int), pCls Q.1 (fun t => decide (Q.2.2.2 ≤ t)) (pcO true Q.1 Q.2.1) g2 (t1 + 1) l1 w2 = (tE, some (r2, c2))) := by
  rcases g with _ | g
  · cases e
  rcases e1 : pcO true Q.1 Q.2.1 t l w with ⟨t2, _ | ⟨l2, cl, c1⟩⟩
  · rw [pCls_n e1] at e
    cases e
  have e2 := e1
  unfold pcO at e2
  rw [if_pos rfl] at e2
  have hg := pOrdC_G hQ e2 hl
  refine ⟨hg.2.2.1, t2, l2, cl, c1, ?_⟩
  by_cases h9 : Q.1 t2 = 159
  · rw [pCls_s e1 h9] at e
    rcases e3 : pCls Q.1 (fun t => decide (Q.2.2.2 ≤ t)) (pcO true Q.1 Q.2.1) g (t2 + 1) l2 (w + c1.length) with ⟨t3, _ | ⟨r3, c3⟩⟩
    · rw [e3] at e
      cases e
    rw [e3] at e
    cases e
    exact ⟨r3, e2, hg.1, hg.2.1, rfl, Or.inr ⟨g, w + c1.length, c3, e3⟩⟩
  · rw [pCls_e e1 h9] at e
    split at e
    next c =>
      cases e
      exact ⟨[], e2, hg.1, hg.2.1, rfl, Or.inl ⟨rfl, of_decide_eq_true c⟩⟩
    next => cases e
theorem nk_12_27 : zNk 12 27 = none := rfl
theorem m_M_runs : Cond.instanceMethod y_M_runs.1 ∈ zTb ∧ Cond.selects y_M_runs.1.cls y_M_runs.1 y_M_runs.1 ∈ zTb ∧ Cond.initialized y_M_runs.1.cls ∈ zTb ∧ Cond.code y_M_runs.1 y_M_runs.2.1 y_M_runs.2.2.1 y_M_runs.2.2.2 ∈ zTb ∧ (y_M_runs.1.cls ≠ "java/lang/invoke/MethodHandle" ∧ y_M_runs.1.cls ≠ "java/lang/invoke/VarHandle" ∧ (parseMethodDescriptor y_M_runs.1.desc).map (fun d => d.parameters.length) = some 1) ∧ y_M_runs.2.2.1 ≤ 20 :=
  ⟨(zTb_in 2048 (by decide +kernel) (by decide +kernel)), (List.mem_filter.mpr ⟨List.mem_append_left _ (by decide +kernel), by decide +kernel⟩), (zTb_in 151 (by decide +kernel) (by decide +kernel)), (zTb_in 2049 (by decide +kernel) (by decide +kernel)), by decide +kernel, by decide +kernel⟩
theorem lv_M_480 : zLv "DebtDoorsModel" 480 y_M_runs 1 12 := ⟨⟨(zTb_in 2046 (by decide +kernel) (by decide +kernel)), m_M_runs.1, m_M_runs.2.1, m_M_runs.2.2⟩, _, rfl, rfl⟩
def y_M_orders : zMt := (⟨"DebtDoorsModel", "orders", "()I"⟩, prog_14_method_136_code, 6, some .int)
theorem d_M_orders_0 : decode prog_14_method_136_code 0 = .ok (.aload_n 0, 1) := by decide +kernel
theorem d_M_orders_1 : decode prog_14_method_136_code 1 = .ok (.iconst (-1), 1) := by decide +kernel
theorem d_M_orders_2 : decode prog_14_method_136_code 2 = .ok (.putfield 107, 3) := by decide +kernel
theorem d_M_orders_5 : decode prog_14_method_136_code 5 = .ok (.aload_n 0, 1) := by decide +kernel
theorem d_M_orders_6 : decode prog_14_method_136_code 6 = .ok (.iconst 1, 1) := by decide +kernel
theorem d_M_orders_7 : decode prog_14_method_136_code 7 = .ok (.putfield 219, 3) := by decide +kernel
theorem d_M_orders_10 : decode prog_14_method_136_code 10 = .ok (.aload_n 0, 1) := by decide +kernel
theorem d_M_orders_11 : decode prog_14_method_136_code 11 = .ok (.invokevirtual 271, 3) := by decide +kernel
theorem d_M_orders_14 : decode prog_14_method_136_code 14 = .ok (.ifCond .ne 10, 3) := by decide +kernel
theorem d_M_orders_17 : decode prog_14_method_136_code 17 = .ok (.aload_n 0, 1) := by decide +kernel
theorem d_M_orders_18 : decode prog_14_method_136_code 18 = .ok (.bipush (-6), 2) := by decide +kernel
theorem d_M_orders_20 : decode prog_14_method_136_code 20 = .ok (.invokevirtual 127, 3) := by decide +kernel
theorem d_M_orders_23 : decode prog_14_method_136_code 23 = .ok (.ireturn, 1) := by decide +kernel
theorem d_M_orders_24 : decode prog_14_method_136_code 24 = .ok (.aload_n 0, 1) := by decide +kernel
theorem d_M_orders_25 : decode prog_14_method_136_code 25 = .ok (.bipush 10, 2) := by decide +kernel
theorem d_M_orders_27 : decode prog_14_method_136_code 27 = .ok (.invokevirtual 421, 3) := by decide +kernel
theorem d_M_orders_30 : decode prog_14_method_136_code 30 = .ok (.iconst 0, 1) := by decide +kernel
theorem d_M_orders_31 : decode prog_14_method_136_code 31 = .ok (.istore_n 1, 1) := by decide +kernel
theorem d_M_orders_32 : decode prog_14_method_136_code 32 = .ok (.iload_n 1, 1) := by decide +kernel
theorem d_M_orders_33 : decode prog_14_method_136_code 33 = .ok (.sipush 1184, 3) := by decide +kernel
theorem d_M_orders_36 : decode prog_14_method_136_code 36 = .ok (.if_icmp .ge 21, 3) := by decide +kernel
theorem d_M_orders_39 : decode prog_14_method_136_code 39 = .ok (.aload_n 0, 1) := by decide +kernel
theorem d_M_orders_40 : decode prog_14_method_136_code 40 = .ok (.getfield 68, 3) := by decide +kernel
theorem d_M_orders_43 : decode prog_14_method_136_code 43 = .ok (.iload_n 1, 1) := by decide +kernel
theorem d_M_orders_44 : decode prog_14_method_136_code 44 = .ok (.aload_n 0, 1) := by decide +kernel
theorem d_M_orders_45 : decode prog_14_method_136_code 45 = .ok (.getfield 65, 3) := by decide +kernel
theorem d_M_orders_48 : decode prog_14_method_136_code 48 = .ok (.iload_n 1, 1) := by decide +kernel
theorem d_M_orders_49 : decode prog_14_method_136_code 49 = .ok (.iaload, 1) := by decide +kernel
theorem d_M_orders_50 : decode prog_14_method_136_code 50 = .ok (.iastore, 1) := by decide +kernel
theorem d_M_orders_51 : decode prog_14_method_136_code 51 = .ok (.iinc 1 1, 3) := by decide +kernel
theorem d_M_orders_54 : decode prog_14_method_136_code 54 = .ok (.goto (-22), 3) := by decide +kernel
theorem d_M_orders_57 : decode prog_14_method_136_code 57 = .ok (.aload_n 0, 1) := by decide +kernel
theorem d_M_orders_58 : decode prog_14_method_136_code 58 = .ok (.getfield 11, 3) := by decide +kernel
theorem d_M_orders_61 : decode prog_14_method_136_code 61 = .ok (.istore_n 1, 1) := by decide +kernel
theorem d_M_orders_62 : decode prog_14_method_136_code 62 = .ok (.aload_n 0, 1) := by decide +kernel
theorem d_M_orders_63 : decode prog_14_method_136_code 63 = .ok (.bipush 6, 2) := by decide +kernel
theorem d_M_orders_65 : decode prog_14_method_136_code 65 = .ok (.invokevirtual 274, 3) := by decide +kernel
theorem d_M_orders_68 : decode prog_14_method_136_code 68 = .ok (.aload_n 0, 1) := by decide +kernel
theorem d_M_orders_69 : decode prog_14_method_136_code 69 = .ok (.iconst 0, 1) := by decide +kernel
theorem d_M_orders_70 : decode prog_14_method_136_code 70 = .ok (.putfield 471, 3) := by decide +kernel
theorem d_M_orders_73 : decode prog_14_method_136_code 73 = .ok (.aload_n 0, 1) := by decide +kernel
theorem d_M_orders_74 : decode prog_14_method_136_code 74 = .ok (.iconst (-1), 1) := by decide +kernel
theorem d_M_orders_75 : decode prog_14_method_136_code 75 = .ok (.putfield 474, 3) := by decide +kernel
theorem d_M_orders_78 : decode prog_14_method_136_code 78 = .ok (.aload_n 0, 1) := by decide +kernel
theorem d_M_orders_79 : decode prog_14_method_136_code 79 = .ok (.sipush 2400, 3) := by decide +kernel
theorem d_M_orders_82 : decode prog_14_method_136_code 82 = .ok (.putfield 477, 3) := by decide +kernel
theorem d_M_orders_85 : decode prog_14_method_136_code 85 = .ok (.aload_n 0, 1) := by decide +kernel
theorem d_M_orders_86 : decode prog_14_method_136_code 86 = .ok (.getfield 477, 3) := by decide +kernel
theorem d_M_orders_89 : decode prog_14_method_136_code 89 = .ok (.aload_n 0, 1) := by decide +kernel
theorem d_M_orders_90 : decode prog_14_method_136_code 90 = .ok (.getfield 24, 3) := by decide +kernel
theorem d_M_orders_93 : decode prog_14_method_136_code 93 = .ok (.sipush 163, 3) := by decide +kernel
theorem d_M_orders_96 : decode prog_14_method_136_code 96 = .ok (.iaload, 1) := by decide +kernel
theorem d_M_orders_97 : decode prog_14_method_136_code 97 = .ok (.iadd, 1) := by decide +kernel
theorem d_M_orders_98 : decode prog_14_method_136_code 98 = .ok (.istore_n 2, 1) := by decide +kernel
theorem d_M_orders_99 : decode prog_14_method_136_code 99 = .ok (.iconst 0, 1) := by decide +kernel
theorem d_M_orders_100 : decode prog_14_method_136_code 100 = .ok (.istore_n 3, 1) := by decide +kernel
theorem d_M_orders_101 : decode prog_14_method_136_code 101 = .ok (.aload_n 0, 1) := by decide +kernel
theorem d_M_orders_102 : decode prog_14_method_136_code 102 = .ok (.getfield 477, 3) := by decide +kernel
theorem d_M_orders_105 : decode prog_14_method_136_code 105 = .ok (.iload_n 2, 1) := by decide +kernel
theorem d_M_orders_106 : decode prog_14_method_136_code 106 = .ok (.if_icmp .ge 90, 3) := by decide +kernel
theorem d_M_orders_109 : decode prog_14_method_136_code 109 = .ok (.aload_n 0, 1) := by decide +kernel
theorem d_M_orders_110 : decode prog_14_method_136_code 110 = .ok (.iload_n 2, 1) := by decide +kernel
theorem d_M_orders_111 : decode prog_14_method_136_code 111 = .ok (.invokevirtual 480, 3) := by decide +kernel
theorem d_M_orders_114 : decode prog_14_method_136_code 114 = .ok (.istore 4, 2) := by decide +kernel
theorem d_M_orders_116 : decode prog_14_method_136_code 116 = .ok (.iload 4, 2) := by decide +kernel
theorem d_M_orders_118 : decode prog_14_method_136_code 118 = .ok (.ifCond .ne 6, 3) := by decide +kernel
theorem d_M_orders_121 : decode prog_14_method_136_code 121 = .ok (.goto 69, 3) := by decide +kernel
theorem d_M_orders_124 : decode prog_14_method_136_code 124 = .ok (.aload_n 0, 1) := by decide +kernel
theorem d_M_orders_125 : decode prog_14_method_136_code 125 = .ok (.bipush 10, 2) := by decide +kernel
theorem d_M_orders_127 : decode prog_14_method_136_code 127 = .ok (.invokevirtual 427, 3) := by decide +kernel
theorem d_M_orders_130 : decode prog_14_method_136_code 130 = .ok (.iconst 0, 1) := by decide +kernel
theorem d_M_orders_131 : decode prog_14_method_136_code 131 = .ok (.istore 5, 2) := by decide +kernel
theorem d_M_orders_133 : decode prog_14_method_136_code 133 = .ok (.iload 5, 2) := by decide +kernel
theorem d_M_orders_135 : decode prog_14_method_136_code 135 = .ok (.sipush 1184, 3) := by decide +kernel
theorem d_M_orders_138 : decode prog_14_method_136_code 138 = .ok (.if_icmp .ge 23, 3) := by decide +kernel
theorem d_M_orders_141 : decode prog_14_method_136_code 141 = .ok (.aload_n 0, 1) := by decide +kernel
theorem d_M_orders_142 : decode prog_14_method_136_code 142 = .ok (.getfield 65, 3) := by decide +kernel
theorem d_M_orders_145 : decode prog_14_method_136_code 145 = .ok (.iload 5, 2) := by decide +kernel
theorem d_M_orders_147 : decode prog_14_method_136_code 147 = .ok (.aload_n 0, 1) := by decide +kernel
theorem d_M_orders_148 : decode prog_14_method_136_code 148 = .ok (.getfield 68, 3) := by decide +kernel
theorem d_M_orders_151 : decode prog_14_method_136_code 151 = .ok (.iload 5, 2) := by decide +kernel
theorem d_M_orders_153 : decode prog_14_method_136_code 153 = .ok (.iaload, 1) := by decide +kernel
theorem d_M_orders_154 : decode prog_14_method_136_code 154 = .ok (.iastore, 1) := by decide +kernel
theorem d_M_orders_155 : decode prog_14_method_136_code 155 = .ok (.iinc 5 1, 3) := by decide +kernel
theorem d_M_orders_158 : decode prog_14_method_136_code 158 = .ok (.goto (-25), 3) := by decide +kernel
theorem d_M_orders_161 : decode prog_14_method_136_code 161 = .ok (.aload_n 0, 1) := by decide +kernel
theorem d_M_orders_162 : decode prog_14_method_136_code 162 = .ok (.iload_n 1, 1) := by decide +kernel
theorem d_M_orders_163 : decode prog_14_method_136_code 163 = .ok (.putfield 11, 3) := by decide +kernel
theorem d_M_orders_166 : decode prog_14_method_136_code 166 = .ok (.aload_n 0, 1) := by decide +kernel
theorem d_M_orders_167 : decode prog_14_method_136_code 167 = .ok (.iload_n 3, 1) := by decide +kernel
theorem d_M_orders_168 : decode prog_14_method_136_code 168 = .ok (.putfield 107, 3) := by decide +kernel
theorem d_M_orders_171 : decode prog_14_method_136_code 171 = .ok (.aload_n 0, 1) := by decide +kernel
theorem d_M_orders_172 : decode prog_14_method_136_code 172 = .ok (.iload 4, 2) := by decide +kernel
theorem d_M_orders_174 : decode prog_14_method_136_code 174 = .ok (.bipush (-5), 2) := by decide +kernel
theorem d_M_orders_176 : decode prog_14_method_136_code 176 = .ok (.if_icmp .ne 8, 3) := by decide +kernel
theorem d_M_orders_179 : decode prog_14_method_136_code 179 = .ok (.bipush (-5), 2) := by decide +kernel
theorem d_M_orders_181 : decode prog_14_method_136_code 181 = .ok (.goto 5, 3) := by decide +kernel
theorem d_M_orders_184 : decode prog_14_method_136_code 184 = .ok (.bipush (-3), 2) := by decide +kernel
theorem d_M_orders_186 : decode prog_14_method_136_code 186 = .ok (.invokevirtual 127, 3) := by decide +kernel
theorem d_M_orders_189 : decode prog_14_method_136_code 189 = .ok (.ireturn, 1) := by decide +kernel
theorem d_M_orders_190 : decode prog_14_method_136_code 190 = .ok (.iinc 3 1, 3) := by decide +kernel
theorem d_M_orders_193 : decode prog_14_method_136_code 193 = .ok (.goto (-92), 3) := by decide +kernel
theorem d_M_orders_196 : decode prog_14_method_136_code 196 = .ok (.aload_n 0, 1) := by decide +kernel
theorem d_M_orders_197 : decode prog_14_method_136_code 197 = .ok (.aload_n 0, 1) := by decide +kernel
theorem d_M_orders_198 : decode prog_14_method_136_code 198 = .ok (.getfield 471, 3) := by decide +kernel
theorem d_M_orders_201 : decode prog_14_method_136_code 201 = .ok (.invokevirtual 14, 3) := by decide +kernel
theorem d_M_orders_204 : decode prog_14_method_136_code 204 = .ok (.ireturn, 1) := by decide +kernel
def w_M_orders {d : Nat} (hd : 1 ≤ d) := (show SS ("DebtDoorsModel", prog_14_method_136_code, 6) (some .int) d 0 0 0 0 _ from (sS (p1 := 5) (sP 47 fl_M_107 fp_12_47 nk_12_47 (rAn 0 d_M_orders_0 rfl) (xE (rI d_M_orders_1 rfl)) d_M_orders_2 rfl) (sS (p1 := 10) (sP 8 fl_M_219 fp_12_8 nk_12_8 (rAn 0 d_M_orders_5 rfl) (xE (rI d_M_orders_6 rfl)) d_M_orders_7 rfl) (sS (p1 := 24) (sIf (pn := 24) (tt := 17) (xNot (xJ1 (tgt := 24) k_ne (xV lv_M_271 (xA (rAr rA0 (rAn 0 d_M_orders_10 rfl))) (by decide) d_M_orders_11) d_M_orders_14 (by decide))) (sRi (xV lv_M_127 (xA (rAi (rAr rA0 (rAn 0 d_M_orders_17 rfl)) (rB d_M_orders_18 rfl))) (by decide) d_M_orders_20) d_M_orders_23 rfl)) (sS (p1 := 30) (sV (xVv lv_M_421 (xA (rAi (rAr rA0 (rAn 0 d_M_orders_24 rfl)) (rB d_M_orders_25 rfl))) (by decide) d_M_orders_27)) (sS (p1 := 57) (sS (p1 := 32) (sIn 1 (xE (rI d_M_orders_30 rfl)) d_M_orders_31 rfl (by decide)) (sLp (ps := 51) (tt := 39) (pn := 57) (p1 := 0) (p2 := 0) (xC (rNot (rJ2 (tgt := 57) j_ge (rIn 1 d_M_orders_32 rfl) (rSi d_M_orders_33 rfl) d_M_orders_36 (by decide)))) (sAs (rFr fl_M_68 nk_12_27 (rAn 0 d_M_orders_39 rfl) d_M_orders_40) (rIn 1 d_M_orders_43 rfl) (xE (rIa (rFr fl_M_65 nk_12_26 (rAn 0 d_M_orders_44 rfl) d_M_orders_45) (rIn 1 d_M_orders_48 rfl) d_M_orders_49)) d_M_orders_50) (sGo (pn := 32) (sInc d_M_orders_51 (by decide)) d_M_orders_54 (by decide)))) (sS (p1 := 62) (sIn 1 (xE (rF 28 fl_M_11 nk_12_28 (rAn 0 d_M_orders_57 rfl) d_M_orders_58 rfl)) d_M_orders_61 rfl (by decide)) (sS (p1 := 68) (sV (xVv lv_M_274 (xA (rAi (rAr rA0 (rAn 0 d_M_orders_62 rfl)) (rB d_M_orders_63 rfl))) (by decide) d_M_orders_65)) (sS (p1 := 73) (sP 48 fl_M_471 fp_12_48 nk_12_48 (rAn 0 d_M_orders_68 rfl) (xE (rI d_M_orders_69 rfl)) d_M_orders_70 rfl) (sS (p1 := 78) (sP 49 fl_M_474 fp_12_49 nk_12_49 (rAn 0 d_M_orders_73 rfl) (xE (rI d_M_orders_74 rfl)) d_M_orders_75 rfl) (sS (p1 := 85) (sP 50 fl_M_477 fp_12_50 nk_12_50 (rAn 0 d_M_orders_78 rfl) (xE (rSi d_M_orders_79 rfl)) d_M_orders_82 rfl) (sS (p1 := 99) (sIn 2 (xE (r2 o_add (rF 50 fl_M_477 nk_12_50 (rAn 0 d_M_orders_85 rfl) d_M_orders_86 rfl) (rIa (rFr fl_M_24 nk_12_2 (rAn 0 d_M_orders_89 rfl) d_M_orders_90) (rSi d_M_orders_93 rfl) d_M_orders_96) d_M_orders_97)) d_M_orders_98 rfl (by decide)) (sS (p1 := 196) (sS (p1 := 101) (sIn 3 (xE (rI d_M_orders_99 rfl)) d_M_orders_100 rfl (by decide)) (sLp (ps := 190) (tt := 109) (pn := 196) (p1 := 0) (p2 := 0) (xC (rNot (rJ2 (tgt := 196) j_ge (rF 50 fl_M_477 nk_12_50 (rAn 0 d_M_orders_101 rfl) d_M_orders_102 rfl) (rIn 2 d_M_orders_105 rfl) d_M_orders_106 (by decide)))) (sS (p1 := 116) (sI (xV lv_M_480 (xA (rAi (rAr rA0 (rAn 0 d_M_orders_109 rfl)) (rIn 2 d_M_orders_110 rfl))) (by decide) d_M_orders_111) d_M_orders_114 (by decide)) (sS (p1 := 124) (sIf (pn := 124) (tt := 190) (xC (rGt (p2 := 190) (rNot (rJ1 (tgt := 124) k_ne (rIl d_M_orders_116) d_M_orders_118 (by decide))) d_M_orders_121 (by decide))) sCo0) (sS (p1 := 130) (sV (xVv lv_M_427 (xA (rAi (rAr rA0 (rAn 0 d_M_orders_124 rfl)) (rB d_M_orders_125 rfl))) (by decide) d_M_orders_127)) (sS (p1 := 161) (sS (p1 := 133) (sI (xE (rI d_M_orders_130 rfl)) d_M_orders_131 (by decide)) (sLp (ps := 155) (tt := 141) (pn := 161) (p1 := 0) (p2 := 0) (xC (rNot (rJ2 (tgt := 161) j_ge (rIl d_M_orders_133) (rSi d_M_orders_135 rfl) d_M_orders_138 (by decide)))) (sAs (rFr fl_M_65 nk_12_26 (rAn 0 d_M_orders_141 rfl) d_M_orders_142) (rIl d_M_orders_145) (xE (rIa (rFr fl_M_68 nk_12_27 (rAn 0 d_M_orders_147 rfl) d_M_orders_148) (rIl d_M_orders_151) d_M_orders_153)) d_M_orders_154) (sGo (pn := 133) (sInc d_M_orders_155 (by decide)) d_M_orders_158 (by decide)))) (sS (p1 := 166) (sP 28 fl_M_11 fp_12_28 nk_12_28 (rAn 0 d_M_orders_161 rfl) (xE (rIn 1 d_M_orders_162 rfl)) d_M_orders_163 rfl) (sS (p1 := 171) (sP 47 fl_M_107 fp_12_47 nk_12_47 (rAn 0 d_M_orders_166 rfl) (xE (rIn 3 d_M_orders_167 rfl)) d_M_orders_168 rfl) (sRi (xV lv_M_127 (xA (rAi (rAr rA0 (rAn 0 d_M_orders_171 rfl)) (rT2 (rNot (rJ2 (tgt := 184) j_ne (rIl d_M_orders_172) (rB d_M_orders_174 rfl) d_M_orders_176 (by decide))) (rGoE (p2 := 186) (rB d_M_orders_179 rfl) d_M_orders_181 (by decide)) (rB d_M_orders_184 rfl)))) (by decide) d_M_orders_186) d_M_orders_189 rfl))))))) (sGo (pn := 101) (sInc d_M_orders_190 (by decide)) d_M_orders_193 (by decide)))) (sRi (xV lv_M_14 (xA (rAi (rAr rA0 (rAn 0 d_M_orders_196 rfl)) (rF 48 fl_M_471 nk_12_48 (rAn 0 d_M_orders_197 rfl) d_M_orders_198 rfl))) (by decide) d_M_orders_201) d_M_orders_204 rfl))))))))))))))
set_option maxHeartbeats 2000000 in
set_option maxRecDepth 20000 in
theorem q_M_orders {d : Nat} (hd : 56 ≤ d) {μ : zMem} {Z : Zt} {F : Option (List Cls)} {A : Lg} {U : List (Lg × Int)} {w : Int → Int} {B : Int → Int} {n : Nat} (h : MTx μ Z F A w) (hu : 0 ≤ μ 355 28 ∧ μ 355 28 ≤ 16) (hU : UR U (unM μ)) (hB : okB B n) (hn : μ 355 11 = (n : Int)) (hT : ∀ i : Nat, i < n → μ 362 i = sgn (B i)) (hw : ∀ i : Int, 0 ≤ i → i < 147 → μ 361 i = wTab i) (hr : okR (μ 356)) : zSp d 0 0 y_M_orders zT0 [vr 355] μ zT0 (fun r μ' => (∀ t, pCls (cT B n) (fun t => decide (n ≤ ps B n t)) (pcO true (cT B n) (vT B n)) 12 0 0 85 = (t, none) → r = some (vi (-6)) ∧ (μ' 355 0 = -6 ∧ μ' 355 11 = 0 ∧ μ' 355 12 = (ps B n t : Int) ∧ μ' 355 47 = -1) ∧ μ' 356 = (zm μ 356 6 (μ 356 6 + 1)) 356 ∧ (∀ j : Int, j ≠ 0 → j ≠ 8 → j ≠ 11 → j ≠ 12 → ¬ (16 ≤ j ∧ j ≤ 19) → j ≠ 47 → μ' 355 j = μ 355 j) ∧ zfc [355, 356, 364, 365, 366] μ μ') ∧ ∀ t a, pCls (cT B n) (fun t => decide (n ≤ ps B n t)) (pcO true (cT B n) (vT B n)) 12 0 0 85 = (t, some a) → OwM μ μ' ∧ (μ' 355 11 = 0 ∧ μ' 355 12 = -1 ∧ 0 ≤ μ' 355 28 ∧ μ' 355 28 ≤ 16) ∧ (0 ≤ (orL Z F a.1 (A, U, 0, -1, w) a.1.length).1 → r = some (vi (orL Z F a.1 (A, U, 0, -1, w) a.1.length).2.2.2.1) ∧ MTx μ' Z F (orL Z F a.1 (A, U, 0, -1, w) a.1.length).2.1 (orL Z F a.1 (A, U, 0, -1, w) a.1.length).2.2.2.2.2 ∧ UR (orL Z F a.1 (A, U, 0, -1, w) a.1.length).2.2.1 (unM μ') ∧ μ' 355 0 = 0 ∧ μ' 355 47 = -1 ∧ μ' 356 = μ 356) ∧ ((orL Z F a.1 (A, U, 0, -1, w) a.1.length).1 < 0 → ∃ (c : Int) (j : Nat), c = zit ((orL Z F a.1 (A, U, 0, -1, w) a.1.length).1 = -5) (-5) (-3) ∧ r = some (vi c) ∧ j < a.1.length ∧ (orL Z F a.1 (A, U, 0, -1, w) j).1 = 0 ∧ (orL Z F a.1 (A, U, 0, -1, w) (j + 1)).1 < 0 ∧ MTx μ' Z F A w ∧ UR U (unM μ') ∧ μ' 355 0 = c ∧ μ' 355 47 = (j : Int) ∧ μ' 356 = (zm μ 356 (-c) (μ 356 (-c) + 1)) 356)) := by
  refine zSp.ss [vr 355, vx 0, vx 0, vx 0, vx 0, vx 0] rfl (w_M_orders (Nat.le_trans (by decide) hd)) rfl rfl ?_
  (try simp only [zit_e, Bool.and_eq_true, Bool.or_eq_true, Bool.not_eq_true', Bool.and_eq_false_iff, Bool.or_eq_false_iff, Bool.not_eq_false', zbe, zdt, zdf, zb2_p, zbp_0, zbp_1, zbp_inj, zbp_01, Bool.true_eq_false, Bool.false_eq_true, true_and, and_true, Decidable.not_not, Classical.not_not, implies_true, List.nil_append, List.cons_append, List.append_assoc, Option.some.injEq, Sum.inl.injEq, zSw_c, zSw_n]); (try simp only [zit_e, Bool.and_eq_true, Bool.or_eq_true, Bool.not_eq_true', Bool.and_eq_false_iff, Bool.or_eq_false_iff, Bool.not_eq_false', zbe, zdt, zdf, zb2_p, zbp_0, zbp_1, zbp_inj, zbp_01, Bool.true_eq_false, Bool.false_eq_true, true_and, and_true, Decidable.not_not, Classical.not_not, implies_true, List.nil_append, List.cons_append, List.append_assoc, Option.some.injEq, Sum.inl.injEq, zSw_c, zSw_n, zc_355]); (try simp only [zi_cs, zi_c0, zii_cs, zii_c0, zl_cs, zl_c0, zll_cs, zll_c0, zr_cs, zr_c0, zrr_cs, zrr_c0, zxs_cs, zxs_c0, zxx_cs, zxx_c0, zfree_c0, zfree_c1, zfree_cs, zfree_cz, zlong_i, zlong_r, zlong_x, zset_0, zset_s, true_and, and_true, Option.some.injEq, Sum.inl.injEq, Sum.inr.injEq, zb2_p, zbp_0, zbp_1, zbp_inj, zbp_01, Nat.zero_add, Nat.reduceAdd, implies_true, List.nil_append, List.cons_append, List.append_assoc, Int.not_lt, Int.not_le, Decidable.not_not, Int.zero_add, Int.reduceLE, Int.reduceLT, Int.reduceEq, Int.reduceNe, Int.reduceAdd, Int.reduceSub, Int.reduceMul, Int.reduceNeg, Int.reduceToNat, Nat.reduceMul, Nat.reduceLT, Nat.reduceEqDiff, and_self, ite_true, ite_false, zx1, zx2, zRecv, List.length_cons, List.length_nil, ne_eq, not_true_eq_false, not_false_eq_true, true_or, or_true, or_false, false_or, and_false, false_and, zf01, zf10, reduceCtorEq, zSw_c, zSw_n, zm_r, zit_T, zit_F, false_implies, true_implies, zc_355])
  refine zCw.use (q_M_reads (d := 50) (Nat.le_refl _) (o := true) hB (by rw [zm_j (by decide), zm_j (by decide)]; exact hn) zm_s (fun i hi => by rw [zm_off 362 (by decide), zm_off 362 (by decide)]; exact hT i hi) (fun i a b => by rw [zm_off 361 (by decide), zm_off 361 (by decide)]; exact hw i a b)) (by omega) (fun q μ1 e => ?_)
  obtain ⟨e1, e2, e3, ⟨N, e4, e5, e6, e7⟩, e8, e9⟩ := e
  generalize hR : pCls (cT B n) (fun t => decide (n ≤ ps B n t)) (pcO true (cT B n) (vT B n)) 12 0 0 85 = R at *
  have k356 : μ1 356 = μ 356 := (e9 356 (by decide)).trans ((zm_off 356 (by decide)).trans (zm_off 356 (by decide)))
  have k357 : μ1 357 = μ 357 := (e9 357 (by decide)).trans ((zm_off 357 (by decide)).trans (zm_off 357 (by decide)))
  have k369 : μ1 369 = μ 369 := (e9 369 (by decide)).trans ((zm_off 369 (by decide)).trans (zm_off 369 (by decide)))
  have k355 : ∀ j : Int, j ≠ 8 → j ≠ 47 → j ≠ 11 → j ≠ 12 → ¬ (16 ≤ j ∧ j ≤ 19) → μ1 355 j = μ 355 j := fun j a0 a1 a2 a3 a4 => by rw [e8 j a2 a3 (by omega) (by omega) (by omega) (by omega), zm_j a0, zm_j a1]
  have k47 : μ1 355 47 = -1 := by rw [e8 47 (by decide) (by decide) (by decide) (by decide) (by decide) (by decide), zm_j (by decide), zm_s]
  have f1 : zfc [355, 364, 365, 366] μ μ1 := ((((zfc.rf (cs := [355, 364, 365, 366])).zm (by decide)).zm (by decide)).tr e9).mo (b := [355, 364, 365, 366]) (by simp)
  rcases R with ⟨t, _ | a⟩
  · obtain ⟨rfl, f12⟩ := e1 t rfl
    refine ⟨_, rfl, ?_⟩
    rw [if_pos rfl]
    refine zCw.use (q_M_refuses (d := 1) (by decide) (by decide) (by rw [k356]; exact hr 6 (by decide) (by decide))) (by omega) (fun q μ2 e => ?_)
    obtain ⟨rfl, rfl⟩ := e
    refine ⟨_, rfl, fun t1 q => ?_, fun t1 a q => (by cases q)⟩
    cases q
    refine ⟨rfl, ⟨?_, ?_, ?_, ?_⟩, ?_, fun j b0 b1 b2 b3 b4 b5 => ?_, ((f1.mo (b := [355, 356, 364, 365, 366]) (by simp)).zm (by decide)).zm (by decide)⟩
    · rw [zm_off 355 (by decide), zm_s]
    · rw [zm_off 355 (by decide), zm_j (by decide), e3]
    · rw [zm_off 355 (by decide), zm_j (by decide), f12]
    · rw [zm_off 355 (by decide), zm_j (by decide), k47]
    · funext i
      rw [k356]
      simp only [zm_r, zit_T, zit_F, Nat.reduceEqDiff, k356]
      rfl
    · rw [zm_off 355 (by decide), zm_j b0, k355 j b1 b5 b2 b3 b4]
  · obtain ⟨rfl, f12⟩ := e2 t a rfl
    refine ⟨_, rfl, ?_⟩
    rw [if_neg (by decide)]
    refine zCw.use (q_M_laysAside (d := 1) (k := 10) (by decide) (by decide)) (by omega) (fun q μ2 e => ?_)
    obtain ⟨rfl, g60, z2⟩ := e
    refine ⟨rfl, ?_⟩
    refine zLoop.up 1184 (fun j ρ ν => ρ = [vr 355, vi j, vx 0, vx 0, vx 0, vx 0] ∧ (∀ y, ν 370 y = zit (0 ≤ y ∧ y < j) (μ2 369 y) (μ2 370 y)) ∧ zfc [370] μ2 ν) ⟨rfl, fun y => by rw [zit_f (by omega)], zfc.rf⟩ ?_
    rintro j ρ ν hj ⟨rfl, i1, i2⟩
    (try simp only [zit_e, Bool.and_eq_true, Bool.or_eq_true, Bool.not_eq_true', Bool.and_eq_false_iff, Bool.or_eq_false_iff, Bool.not_eq_false', zbe, zdt, zdf, zb2_p, zbp_0, zbp_1, zbp_inj, zbp_01, Bool.true_eq_false, Bool.false_eq_true, true_and, and_true, Decidable.not_not, Classical.not_not, implies_true, List.nil_append, List.cons_append, List.append_assoc, Option.some.injEq, Sum.inl.injEq, zSw_c, zSw_n]); (try simp only [zit_e, Bool.and_eq_true, Bool.or_eq_true, Bool.not_eq_true', Bool.and_eq_false_iff, Bool.or_eq_false_iff, Bool.not_eq_false', zbe, zdt, zdf, zb2_p, zbp_0, zbp_1, zbp_inj, zbp_01, Bool.true_eq_false, Bool.false_eq_true, true_and, and_true, Decidable.not_not, Classical.not_not, implies_true, List.nil_append, List.cons_append, List.append_assoc, Option.some.injEq, Sum.inl.injEq, zSw_c, zSw_n, zc_355]); (try simp only [zi_cs, zi_c0, zii_cs, zii_c0, zl_cs, zl_c0, zll_cs, zll_c0, zr_cs, zr_c0, zrr_cs, zrr_c0, zxs_cs, zxs_c0, zxx_cs, zxx_c0, zfree_c0, zfree_c1, zfree_cs, zfree_cz, zlong_i, zlong_r, zlong_x, zset_0, zset_s, true_and, and_true, Option.some.injEq, Sum.inl.injEq, Sum.inr.injEq, zb2_p, zbp_0, zbp_1, zbp_inj, zbp_01, Nat.zero_add, Nat.reduceAdd, implies_true, List.nil_append, List.cons_append, List.append_assoc, Int.not_lt, Int.not_le, Decidable.not_not, Int.zero_add, Int.reduceLE, Int.reduceLT, Int.reduceEq, Int.reduceNe, Int.reduceAdd, Int.reduceSub, Int.reduceMul, Int.reduceNeg, Int.reduceToNat, Nat.reduceMul, Nat.reduceLT, Nat.reduceEqDiff, and_self, ite_true, ite_false, zx1, zx2, zRecv, List.length_cons, List.length_nil, ne_eq, not_true_eq_false, not_false_eq_true, true_or, or_true, or_false, false_or, and_false, false_and, zf01, zf10, reduceCtorEq, zSw_c, zSw_n, zm_r, zit_T, zit_F, false_implies, true_implies, zc_355])
    refine zif (fun c => ?_) (fun c => ?_)
    · refine ⟨by omega, by omega, ⟨by omega, by omega⟩, by ((try simp only [zI_e]); (first | done | omega | skip)), znx (by omega) ⟨rfl, fun y => ?_, i2.zm (by decide)⟩⟩
      rw [i2 369 (by decide), i1]
      by_cases ey : y = j
      · rw [zit_t ey, zit_t (by omega), ey]
      · rw [zit_f ey]
        by_cases e3 : 0 ≤ y ∧ y < j
        · rw [zit_t e3, zit_t (by omega)]
        · rw [zit_f e3, zit_f (by omega)]
    have hj1 : j = 1184 := by omega
    subst hj1
    have kν : ν 355 = μ1 355 := (i2 355 (by decide)).trans (z2 355 (by decide))
    have k57 : ν 357 = μ 357 := ((i2 357 (by decide)).trans (z2 357 (by decide))).trans k357
    have k69 : ν 369 = μ 369 := ((i2 369 (by decide)).trans (z2 369 (by decide))).trans k369
    have k56 : ν 356 = μ 356 := ((i2 356 (by decide)).trans (z2 356 (by decide))).trans k356
    have k28 : ν 355 28 = μ 355 28 := by rw [kν]; exact k355 28 (by decide) (by decide) (by decide) (by decide) (by omega)
    have fA : zfc [355, 360, 364, 365, 366, 370] μ ν := ((f1.tr z2).tr i2).mo (by simp)
    have h70 : ∀ y : Int, 0 ≤ y → y < 1184 → ν 370 y = μ 369 y := fun y y0 y1 => by rw [i1, zit_t (by omega), z2 369 (by decide), k369]
    have h60 : ∀ y : Int, 0 ≤ y → y < 73 → ν 360 (730 + y) = μ 357 y := fun y y0 y1 => by rw [i2 360 (by decide), g60, zit_t (by omega), show 730 + y - 73 * 10 = y by omega, k357]
    have hTK : TKs (cT B n, vT B n, fun u => (ps B n u : Int), N) ν := ⟨by rw [kν]; exact e4.1, fun u hu => by rw [i2 364 (by decide), i2 365 (by decide), i2 366 (by decide), z2 364 (by decide), z2 365 (by decide), z2 366 (by decide)]; exact e4.2 u hu⟩
    rw [ps_fin e6 e7] at hR
    have hQ : okK (cT B n, vT B n, fun u => (ps B n u : Int), N) := e5
    have hP : pCls (cT B n, vT B n, fun u => (ps B n u : Int), N).1 (fun t => decide ((cT B n, vT B n, fun u => (ps B n u : Int), N).2.2.2 ≤ t)) (pcO true (cT B n, vT B n, fun u => (ps B n u : Int), N).1 (cT B n, vT B n, fun u => (ps B n u : Int), N).2.1) 12 0 0 85 = (t, some a) := hR
    have hQN : (cT B n, vT B n, fun u => (ps B n u : Int), N).2.2.2 = N := rfl
    generalize (cT B n, vT B n, fun u => (ps B n u : Int), N) = Q at hTK hQ hP hQN
    subst hQN
    refine zCw.use (q_M_lays (d := 1) (Nat.le_refl _) (x := 6) ⟨by decide, by decide⟩ hQ hTK) (by omega) (fun q μ4 e => ?_)
    obtain ⟨rfl, g1, g2, g3⟩ := e
    refine ⟨rfl, ?_⟩
    have h163 : μ4 357 163 = (Q.2.2.2 : Int) := g1.1
    have hN4 := hQ.1
    rw [h163]
    refine ⟨by ((try simp only [zI_e]); (first | done | omega | skip)), ?_⟩
    have hl12 := pCls_l _ _ _ _ _ _ _ hR
    have x57 : S6 (μ 357) (μ4 357) := fun i p q r => by rw [g2 i (by omega) (by omega) (by omega), k57]
    have x55 : μ4 355 = ν 355 := g3 355 (by decide)
    have fB : zfc [355, 357, 360, 364, 365, 366, 370] μ μ4 := (fA.tr g3).mo (by simp)
    have hM4 := MTx_6 h x57
    have z70 : ∀ y : Int, 0 ≤ y → y < 1184 → μ4 370 y = μ 369 y := fun y y0 y1 => by rw [g3 370 (by decide), h70 y y0 y1]
    have z60 : ∀ y : Int, 0 ≤ y → y < 73 → μ4 360 (730 + y) = μ 357 y := fun y y0 y1 => by rw [g3 360 (by decide), h60 y y0 y1]
    have kj : ∀ j : Int, j ≠ 8 → j ≠ 47 → j ≠ 11 → j ≠ 12 → ¬ (16 ≤ j ∧ j ≤ 19) → μ4 355 j = μ 355 j := fun j p q r s t => by rw [x55, kν, k355 j p q r s t]
    have kk47 : μ4 355 47 = -1 := by rw [x55, kν, k47]
    have kk11 : μ4 355 11 = 0 := by rw [x55, kν, e3]
    have kk12 : μ4 355 12 = -1 := by rw [x55, kν, f12]
    have kk56 : μ4 356 = μ 356 := (g3 356 (by decide)).trans k56
    have kk69 : μ4 369 = μ 369 := (g3 369 (by decide)).trans k69
    have hLw : LwM (μ4 357) 6 Q := g1
    rw [k28]
    clear hTK i1 i2 g60 z2 e9 e8 e4 e1 e2 f1 k355 h70 h60 g1 g2 g3 k57 k69 k56 k357 k369 k356 hw hT fA
    clear k28 k47 kν x55 e3 f12
    generalize hXX : zm (zm (zm μ4 355 48 0) 355 49 (-1)) 355 50 2400 = X
    have X0 : ∀ b : Nat, b ≠ 355 → X b = μ4 b := fun b p => by rw [← hXX, zm_off _ p, zm_off _ p, zm_off _ p]
    have X1 : ∀ j : Int, j ≠ 48 → j ≠ 49 → j ≠ 50 → X 355 j = μ4 355 j := fun j p q r => by rw [← hXX, zm_o (Or.inr r), zm_o (Or.inr q), zm_o (Or.inr p)]
    have X2 : X 355 48 = 0 ∧ X 355 49 = -1 ∧ X 355 50 = 2400 := by
      rw [← hXX]
      exact ⟨by rw [zm_o (by decide), zm_o (by decide), zm_s], by rw [zm_o (by decide), zm_s], zm_s⟩
    have fX : zfc [355, 357, 360, 364, 365, 366, 370] μ X := fun b hb => (X0 b (fun e => hb (by rw [e]; decide))).trans (fB b hb)
    have uX : unM X = unM μ := by
      unfold unM rwM
      rw [X1 28 (by decide) (by decide) (by decide), kj 28 (by decide) (by decide) (by decide) (by decide) (by decide), X0 369 (by decide), kk69]
    have hO0 : OrM Z F (A, U, 0, -1, w) X X := ⟨hM4.k (X0 357 (by decide)), by rw [X1 28 (by decide) (by decide) (by decide), kj 28 (by decide) (by decide) (by decide) (by decide) (by decide)]; exact hu, by rw [uX]; exact hU, ⟨X2.1, X2.2.1⟩, fun _ _ => rfl, fun _ _ _ _ => rfl, zfc.rf⟩
    have hZ := h.1
    have hA := h.2.1
    obtain ⟨cls, cc⟩ := a
    have hl12 : cls.length ≤ 12 := hl12
    generalize hx0 : ((A, U, 0, -1, w) : OrS) = x0 at *
    refine zLoop.up cls.length (fun j ρ ν2 => ∃ (t l w2 g tE : Nat) (cs rest : List Cls) (cc : List Int) (x4 x5 : zV), ρ = [vr 355, vi (μ 355 28), vi (2400 + (Q.2.2.2 : Int)), vi j, x4, x5] ∧ OrM Z F (orL Z F cls x0 j).2 X ν2 ∧ (orL Z F cls x0 j).1 = 0 ∧ (∃ m : Nat, m ≤ 20 * j ∧ okO2 m (orL Z F cls x0 j).2) ∧ ν2 355 50 = 2400 + (t : Int) ∧ cls = cs ++ rest ∧ cs.length = j ∧ ((rest = [] ∧ Q.2.2.2 ≤ t) ∨ (l ≤ 50 ∧ pCls Q.1 (fun t => decide (Q.2.2.2 ≤ t)) (pcO true Q.1 Q.2.1) g t l w2 = (tE, some (rest, cc))))) ⟨0, 0, 85, 12, t, [], cls, cc, _, _, rfl, hO0, rfl, ⟨0, by omega, ?_⟩, by rw [X2.2.2]; rfl, rfl, rfl, Or.inr ⟨by omega, hP⟩⟩ ?_
    · rw [← hx0]
      exact ⟨hA, ⟨by show (0 : Int) ≤ 0; decide, by show (0 : Int) ≤ 0; decide⟩, by show (-1 : Int) ≤ -1; decide, by show (-1 : Int) ≤ 1000000; decide⟩
    rintro j ρ ν2 hj ⟨t2, l, w2, g, tE, cs, rest, cc2, x4, x5, rfl, hO, hz, ⟨m, hm, hok⟩, h50, hcl, hcs, hS⟩
    have hLw2 : LwM (ν2 357) 6 Q := by
      refine ⟨?_, fun u hu => ?_⟩
      · rw [hO.2.2.2.2.1 _ (by decide), X0 357 (by decide)]
        exact hLw.1
      · rw [hO.2.2.2.2.1 _ (by omega), X0 357 (by decide), hO.2.2.2.2.1 _ (by omega), X0 357 (by decide)]
        exact hLw.2 u hu
    (try simp only [zit_e, Bool.and_eq_true, Bool.or_eq_true, Bool.not_eq_true', Bool.and_eq_false_iff, Bool.or_eq_false_iff, Bool.not_eq_false', zbe, zdt, zdf, zb2_p, zbp_0, zbp_1, zbp_inj, zbp_01, Bool.true_eq_false, Bool.false_eq_true, true_and, and_true, Decidable.not_not, Classical.not_not, implies_true, List.nil_append, List.cons_append, List.append_assoc, Option.some.injEq, Sum.inl.injEq, zSw_c, zSw_n]); (try simp only [zit_e, Bool.and_eq_true, Bool.or_eq_true, Bool.not_eq_true', Bool.and_eq_false_iff, Bool.or_eq_false_iff, Bool.not_eq_false', zbe, zdt, zdf, zb2_p, zbp_0, zbp_1, zbp_inj, zbp_01, Bool.true_eq_false, Bool.false_eq_true, true_and, and_true, Decidable.not_not, Classical.not_not, implies_true, List.nil_append, List.cons_append, List.append_assoc, Option.some.injEq, Sum.inl.injEq, zSw_c, zSw_n, zc_355]); (try simp only [zi_cs, zi_c0, zii_cs, zii_c0, zl_cs, zl_c0, zll_cs, zll_c0, zr_cs, zr_c0, zrr_cs, zrr_c0, zxs_cs, zxs_c0, zxx_cs, zxx_c0, zfree_c0, zfree_c1, zfree_cs, zfree_cz, zlong_i, zlong_r, zlong_x, zset_0, zset_s, true_and, and_true, Option.some.injEq, Sum.inl.injEq, Sum.inr.injEq, zb2_p, zbp_0, zbp_1, zbp_inj, zbp_01, Nat.zero_add, Nat.reduceAdd, implies_true, List.nil_append, List.cons_append, List.append_assoc, Int.not_lt, Int.not_le, Decidable.not_not, Int.zero_add, Int.reduceLE, Int.reduceLT, Int.reduceEq, Int.reduceNe, Int.reduceAdd, Int.reduceSub, Int.reduceMul, Int.reduceNeg, Int.reduceToNat, Nat.reduceMul, Nat.reduceLT, Nat.reduceEqDiff, and_self, ite_true, ite_false, zx1, zx2, zRecv, List.length_cons, List.length_nil, ne_eq, not_true_eq_false, not_false_eq_true, true_or, or_true, or_false, false_or, and_false, false_and, zf01, zf10, reduceCtorEq, zSw_c, zSw_n, zm_r, zit_T, zit_F, false_implies, true_implies, zc_355])
    refine zif (fun c => ?_) (fun c => ?_)
    · rcases hS with ⟨hr0, hNt⟩ | ⟨hl, hS⟩
      · exfalso
        omega
      obtain ⟨htN, t1, l1, cl, cd, r2, hp, hl1, ht1, hrest, hnext⟩ := ord_n hQ hl hS
      have hjl : j < cls.length := by
        rw [hcl, hrest, List.length_append, List.length_cons]
        omega
      have hgd : cls.getD j clN = cl := by
        rw [hcl, hrest, ← hcs, List.getD_eq_getElem?_getD, List.getElem?_append_right (Nat.le_refl _), Nat.sub_self]
        rfl
      have hS1 : orL Z F cls x0 (j + 1) = orI Z F cl (orL Z F cls x0 j).2 cl.2.1.toNat := by rw [orL_s, if_neg (by omega), hgd]
      obtain ⟨k1, k2, k3⟩ := pOrdC_k hp
      generalize hyy : (orL Z F cls x0 j).2 = y at *
      have hok2 := orI_ok (F := F) (cl := cl) hZ hok cl.2.1.toNat
      refine zCw.use (q_M_runs (d := 54) (Nat.le_refl _) hO hQ hLw2 h50 hp (by omega) hl hok (by omega)) (by omega) (fun q μ5 e => ?_)
      obtain ⟨v, rfl, hO5, v0, v1⟩ := e
      refine ⟨_, rfl, zif (fun cv => ?_) (fun cv => ?_)⟩
      · have hz5 : (orI Z F cl y cl.2.1.toNat).1 = 0 := by
          apply Classical.byContradiction
          intro q
          have := v1 (by omega)
          omega
        have h50' := (v0 (by omega)).2
        have hcat : cls = (cs ++ [cl]) ++ r2 := by
          rw [hcl, hrest, List.append_assoc]
          rfl
        have hlen : (cs ++ [cl]).length = j + 1 := by
          rw [List.length_append, hcs]
          rfl
        have hOn : OrM Z F (orL Z F cls x0 (j + 1)).2 X μ5 := by
          rw [hS1]
          exact hO5
        have hzn : (orL Z F cls x0 (j + 1)).1 = 0 := by
          rw [hS1]
          exact hz5
        have hon : ∃ m : Nat, m ≤ 20 * (j + 1) ∧ okO2 m (orL Z F cls x0 (j + 1)).2 := by
          rw [hS1]
          exact ⟨m + cl.2.1.toNat, by omega, hok2.2⟩
        have h5n : μ5 355 50 = 2400 + ((t1 + 1 : Nat) : Int) := by
          rw [h50']
          omega
        rcases hnext with ⟨hr2, hN2⟩ | ⟨g2, w3, c2, hS2⟩
        · exact ⟨by ((try simp only [zI_e]); (first | done | omega | skip)), znx (by omega) ⟨t1 + 1, l1, 0, 0, 0, cs ++ [cl], r2, [], _, _, rfl, hOn, hzn, hon, h5n, hcat, hlen, Or.inl ⟨hr2, by omega⟩⟩⟩
        · exact ⟨by ((try simp only [zI_e]); (first | done | omega | skip)), znx (by omega) ⟨t1 + 1, l1, w3, g2, _, cs ++ [cl], r2, c2, _, _, rfl, hOn, hzn, hon, h5n, hcat, hlen, Or.inr ⟨hl1, hS2⟩⟩⟩
      · have hz5 : (orI Z F cl y cl.2.1.toNat).1 < 0 := by
          apply Classical.byContradiction
          intro q
          have := (v0 (by omega)).1
          omega
        have hvv := v1 hz5
        refine zCw.use (q_M_takesBack (d := 1) (k := 10) (by decide) (by decide)) (by omega) (fun q μ6 e => ?_)
        obtain ⟨rfl, t57, tz⟩ := e
        refine ⟨rfl, ?_⟩
        refine zLoop.up 1184 (fun i ρ ν3 => ρ = [vr 355, vi (μ 355 28), vi (2400 + (Q.2.2.2 : Int)), vi j, vi v, vi i] ∧ (∀ y, ν3 369 y = zit (0 ≤ y ∧ y < i) (μ6 370 y) (μ6 369 y)) ∧ zfc [369] μ6 ν3) ⟨rfl, fun y => by rw [zit_f (by omega)], zfc.rf⟩ ?_
        rintro i ρ ν3 hi ⟨rfl, i1, i2⟩
        (try simp only [zit_e, Bool.and_eq_true, Bool.or_eq_true, Bool.not_eq_true', Bool.and_eq_false_iff, Bool.or_eq_false_iff, Bool.not_eq_false', zbe, zdt, zdf, zb2_p, zbp_0, zbp_1, zbp_inj, zbp_01, Bool.true_eq_false, Bool.false_eq_true, true_and, and_true, Decidable.not_not, Classical.not_not, implies_true, List.nil_append, List.cons_append, List.append_assoc, Option.some.injEq, Sum.inl.injEq, zSw_c, zSw_n]); (try simp only [zit_e, Bool.and_eq_true, Bool.or_eq_true, Bool.not_eq_true', Bool.and_eq_false_iff, Bool.or_eq_false_iff, Bool.not_eq_false', zbe, zdt, zdf, zb2_p, zbp_0, zbp_1, zbp_inj, zbp_01, Bool.true_eq_false, Bool.false_eq_true, true_and, and_true, Decidable.not_not, Classical.not_not, implies_true, List.nil_append, List.cons_append, List.append_assoc, Option.some.injEq, Sum.inl.injEq, zSw_c, zSw_n, zc_355]); (try simp only [zi_cs, zi_c0, zii_cs, zii_c0, zl_cs, zl_c0, zll_cs, zll_c0, zr_cs, zr_c0, zrr_cs, zrr_c0, zxs_cs, zxs_c0, zxx_cs, zxx_c0, zfree_c0, zfree_c1, zfree_cs, zfree_cz, zlong_i, zlong_r, zlong_x, zset_0, zset_s, true_and, and_true, Option.some.injEq, Sum.inl.injEq, Sum.inr.injEq, zb2_p, zbp_0, zbp_1, zbp_inj, zbp_01, Nat.zero_add, Nat.reduceAdd, implies_true, List.nil_append, List.cons_append, List.append_assoc, Int.not_lt, Int.not_le, Decidable.not_not, Int.zero_add, Int.reduceLE, Int.reduceLT, Int.reduceEq, Int.reduceNe, Int.reduceAdd, Int.reduceSub, Int.reduceMul, Int.reduceNeg, Int.reduceToNat, Nat.reduceMul, Nat.reduceLT, Nat.reduceEqDiff, and_self, ite_true, ite_false, zx1, zx2, zRecv, List.length_cons, List.length_nil, ne_eq, not_true_eq_false, not_false_eq_true, true_or, or_true, or_false, false_or, and_false, false_and, zf01, zf10, reduceCtorEq, zSw_c, zSw_n, zm_r, zit_T, zit_F, false_implies, true_implies, zc_355])
        refine zif (fun c => ?_) (fun c => ?_)
        · refine ⟨by omega, by omega, ⟨by omega, by omega⟩, by ((try simp only [zI_e]); (first | done | omega | skip)), znx (by omega) ⟨rfl, fun y => ?_, i2.zm (by decide)⟩⟩
          rw [i2 370 (by decide), i1]
          by_cases ey : y = i
          · rw [zit_t ey, zit_t (by omega), ey]
          · rw [zit_f ey]
            by_cases e3 : 0 ≤ y ∧ y < i
            · rw [zit_t e3, zit_t (by omega)]
            · rw [zit_f e3, zit_f (by omega)]
        have hj1 : i = 1184 := by omega
        subst hj1
        obtain ⟨o1, o2, o3, o4, o5, o6, o7⟩ := hO5
        have hj2 : (orL Z F cls x0 (j + 1)).1 < 0 := by
          rw [hS1]
          exact hz5
        have hEE := orL_n hj2 (cls.length - (j + 1))
        rw [show j + 1 + (cls.length - (j + 1)) = cls.length by omega] at hEE
        have hv : (orL Z F cls x0 cls.length).1 = v := by rw [hEE, hS1, hvv]
        have hM3 : MTx ν3 Z F A w := (MTx.bk o1 hA (κ := μ 357) (fun y y0 y1 => by rw [i2 357 (by decide), t57, zit_t ⟨y0, y1⟩, show (73 : Int) * 10 + y = 730 + y by omega, o7 360 (by decide), X0 360 (by decide), z60 y y0 y1]) (fun y y0 => by rw [i2 357 (by decide), t57, zit_f (by omega)]) h.2.2.2.1.1 h.n.2.2.2.2.1).ww h.2.2.2.2.2
        have u3 : ∀ y : Int, 0 ≤ y → y < 1184 → ν3 369 y = μ 369 y := fun y y0 y1 => by rw [i1, zit_t (by omega), tz 370 (by decide), o7 370 (by decide), X0 370 (by decide), z70 y y0 y1]
        have k3 : ∀ b : Nat, b ≠ 357 → b ≠ 369 → ν3 b = μ5 b := fun b p q => (i2 b (by simp only [List.mem_cons, List.not_mem_nil, or_false]; omega)).trans (tz b (by simp only [List.mem_cons, List.not_mem_nil, or_false]; omega))
        have k356 : ν3 356 = μ 356 := by rw [k3 356 (by decide) (by decide), o7 356 (by decide), X0 356 (by decide), kk56]
        have k355 : ∀ j : Int, ¬ (20 ≤ j ∧ j ≤ 23) → j ≠ 28 → ¬ (48 ≤ j ∧ j ≤ 54) → ν3 355 j = μ4 355 j := fun j p q r => by rw [k3 355 (by decide) (by decide), o6 j p q r, X1 j (by omega) (by omega) (by omega)]
        have k357 : ∀ i : Int, 73 ≤ i → ν3 357 i = μ4 357 i := fun i p => by rw [i2 357 (by decide), t57, zit_f (by omega), o5 i p, X0 357 (by decide)]
        have f3 : zfc [355, 356, 357, 360, 364, 365, 366, 367, 368, 369, 370, 383] μ ν3 := (((fX.tr o7).tr tz).tr i2).mo (by simp)
        have hcb : -6 ≤ zit (v = -5) (-5) (-3) ∧ zit (v = -5) (-5) (-3) ≤ 0 := by
          unfold zit
          split <;> omega
        refine zCw.use (q_M_refuses (d := 1) (by decide) hcb (by rw [zm_off 356 (by decide), zm_off 356 (by decide), k356]; exact hr _ (by omega) (by omega))) (by omega) (fun q μ7 e => ?_)
        obtain ⟨rfl, rfl⟩ := e
        refine ⟨_, rfl, fun t3 q => (by cases q), fun t3 a3 q => ?_⟩
        cases q
        rw [zm_off 356 (by decide), zm_off 356 (by decide), k356, hv]
        generalize hcc : zit (v = -5) (-5) (-3) = cc3 at *
        have s5 : ∀ i : Int, i ≠ 0 → i ≠ 28 → i ≠ 47 → zm (zm (zm (zm ν3 355 28 (μ 355 28)) 355 47 (j : Int)) 355 0 cc3) 356 (-cc3) (μ 356 (-cc3) + 1) 355 i = ν3 355 i := fun i p q r => by rw [zm_off 355 (by decide), zm_o (Or.inr p), zm_o (Or.inr r), zm_o (Or.inr q)]
        have s28 : zm (zm (zm (zm ν3 355 28 (μ 355 28)) 355 47 (j : Int)) 355 0 cc3) 356 (-cc3) (μ 356 (-cc3) + 1) 355 28 = μ 355 28 := by rw [zm_off 355 (by decide), zm_o (by decide), zm_o (by decide), zm_s]
        have s47 : zm (zm (zm (zm ν3 355 28 (μ 355 28)) 355 47 (j : Int)) 355 0 cc3) 356 (-cc3) (μ 356 (-cc3) + 1) 355 47 = (j : Int) := by rw [zm_off 355 (by decide), zm_o (by decide), zm_s]
        have s0 : zm (zm (zm (zm ν3 355 28 (μ 355 28)) 355 47 (j : Int)) 355 0 cc3) 356 (-cc3) (μ 356 (-cc3) + 1) 355 0 = cc3 := by rw [zm_off 355 (by decide), zm_s]
        have sb : ∀ b : Nat, b ≠ 355 → b ≠ 356 → zm (zm (zm (zm ν3 355 28 (μ 355 28)) 355 47 (j : Int)) 355 0 cc3) 356 (-cc3) (μ 356 (-cc3) + 1) b = ν3 b := fun b p q => by rw [zm_off _ q, zm_off _ p, zm_off _ p, zm_off _ p]
        have s56 : zm (zm (zm (zm ν3 355 28 (μ 355 28)) 355 47 (j : Int)) 355 0 cc3) 356 (-cc3) (μ 356 (-cc3) + 1) 356 = zm μ 356 (-cc3) (μ 356 (-cc3) + 1) 356 := by
          funext i
          simp only [zm_r, zit_T, zit_F, Nat.reduceEqDiff, k356]
        have sz : zfc [355, 356, 357, 360, 364, 365, 366, 367, 368, 369, 370, 383] μ (zm (zm (zm (zm ν3 355 28 (μ 355 28)) 355 47 (j : Int)) 355 0 cc3) 356 (-cc3) (μ 356 (-cc3) + 1)) := (((f3.zm (by decide)).zm (by decide)).zm (by decide)).zm (by decide)
        generalize zm (zm (zm (zm ν3 355 28 (μ 355 28)) 355 47 (j : Int)) 355 0 cc3) 356 (-cc3) (μ 356 (-cc3) + 1) = S at *
        refine ⟨⟨fun i p q r s => ?_, fun i p q r s t u x => ?_, sz⟩, ⟨?_, ?_, ?_⟩, fun q => absurd q ?_, fun _ => ⟨cc3, j, rfl, rfl, hjl, hz, hj2, hM3.k (sb 357 (by decide) (by decide)), ?_, s0, s47, s56⟩⟩
        · rw [sb 357 (by decide) (by decide), k357 i p]
          exact x57 i q r s
        · rw [s5 i p u (by omega), k355 i (by omega) u (by omega)]
          exact kj i q (by omega) r s (by omega)
        · rw [s5 11 (by decide) (by decide) (by decide), k355 11 (by decide) (by decide) (by decide), kk11]
        · rw [s5 12 (by decide) (by decide) (by decide), k355 12 (by decide) (by decide) (by decide), kk12]
        · rw [s28]
          exact hu
        · omega
        · have : unM S = unM μ := by
            unfold unM rwM
            rw [s28, sb 369 (by decide) (by decide)]
            exact tL_congr (fun i i0 i1 => tL_congr (fun k k0 k1 => u3 _ (by omega) (by omega)))
          rw [this]
          exact hU
    · rcases hS with ⟨hr0, hNt⟩ | ⟨hl, hS⟩
      · have hjn : j = cls.length := by
          rw [hcl, hr0, List.append_nil]
          exact hcs.symm
        subst hjn
        obtain ⟨o1, o2, o3, o4, o5, o6, o7⟩ := hO
        refine zCw.use (q_M_good (d := 1) (Nat.le_refl _)) (by omega) (fun q μ5 e => ?_)
        obtain ⟨rfl, rfl⟩ := e
        refine ⟨_, rfl, fun t3 q => (by cases q), fun t3 a3 q => ?_⟩
        cases q
        have f3 : zfc [355, 356, 357, 360, 364, 365, 366, 367, 368, 369, 370, 383] μ ν2 := (fX.tr o7).mo (by simp)
        refine ⟨⟨fun i p q r s => ?_, fun i p q r s t u x => ?_, f3.zm (by decide)⟩, ⟨?_, ?_, ?_⟩, fun _ => ⟨o4.1, o1.k (zm_off 357 (by decide)), ?_, zm_s, ?_, ?_⟩, fun q => ?_⟩
        · rw [zm_off 357 (by decide), o5 i p, X0 357 (by decide)]
          exact x57 i q r s
        · rw [zm_o (Or.inr p), o6 i (by omega) u (by omega), X1 i (by omega) (by omega) (by omega)]
          exact kj i q (by omega) r s (by omega)
        · rw [zm_o (by decide), o6 11 (by decide) (by decide) (by decide), X1 11 (by decide) (by decide) (by decide), kk11]
        · rw [zm_o (by decide), o6 12 (by decide) (by decide) (by decide), X1 12 (by decide) (by decide) (by decide), kk12]
        · rw [zm_o (by decide)]
          exact o2
        · have : unM (zm ν2 355 0 0) = unM ν2 := by
            unfold unM rwM
            rw [zm_o (by decide), zm_off 369 (by decide)]
          rw [this]
          exact o3
        · rw [zm_o (by decide), o6 47 (by decide) (by decide) (by decide), X1 47 (by decide) (by decide) (by decide), kk47]
        · rw [zm_off 356 (by decide), o7 356 (by decide), X0 356 (by decide), kk56]
        · have q : (orL Z F cls x0 cls.length).1 < 0 := q
          exfalso
          omega
      · exfalso
        have := (ord_n hQ hl hS).1
        omega

