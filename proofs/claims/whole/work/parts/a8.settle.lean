/-! hold, settled -/
/-- held: what could be taken back lies aside -/
def HdC (a X : zMem) : Prop := SlO X ∧ unD X 111 = unD a 111 ∧ lgO X (slC 111 (slI X 111 (X 111 3))) = lgO a 2 ∧ (∀ c : Nat, 36 ≤ c → c < 355 → ¬ scC c → c ≠ 321 → c ≠ 351 → c ≠ 326 → ¬ (111 ≤ c ∧ c < 216) → X c = a c) ∧ (∀ j : Int, 15 ≤ j → j ≤ 17 → X 0 j = a 0 j) ∧ (X 321 2 = a 321 2 ∧ X 321 3 = a 321 3) ∧ X 351 2 = a 351 2 ∧ (bW (a 326) → bW (X 326))
theorem slC_n {s : Int} (h : 0 ≤ s ∧ s < 17) : 114 ≤ slC 111 s ∧ slC 111 s ≤ 210 := by unfold slC; omega
theorem unD_same {a b : zMem} (h : SlO a) (h1 : ∀ c : Nat, 111 ≤ c → c < 216 → b c = a c) : unD b 111 = unD a 111 ∧ lgO b (slC 111 (slI b 111 (b 111 3))) = lgO a (slC 111 (slI a 111 (a 111 3))) := by
  have e1 : b 111 = a 111 := h1 111 (by decide) (by decide)
  have e2 : b 113 = a 113 := h1 113 (by decide) (by decide)
  have hs : ∀ i : Int, slI b 111 i = slI a 111 i := fun i => by unfold slI; rw [e1]
  have hl : ∀ i : Int, lgO b (slC 111 (slI a 111 i)) = lgO a (slC 111 (slI a 111 i)) := fun i => lgO_c (fun c hc => by
    have := slC_n (slI_in (μ := a) (U := 111) (i := i))
    exact h1 _ (by omega) (by omega))
  refine ⟨?_, by rw [hs, hl, e1]⟩
  unfold unD
  rw [e1]
  exact tL_congr (fun i _ _ => by rw [hs, hl, show (111 : Nat) + 2 = 113 from rfl, e2])
theorem HdC.kt {a X Y : zMem} (h : HdC a X) (k : KCt X Y) : HdC a Y := by
  obtain ⟨h1, h2, h3, h4, h5, h6, h7, h8⟩ := h
  obtain ⟨k1, k2, k3, k4, k5⟩ := k
  have hc : ∀ c : Nat, 111 ≤ c → c < 216 → Y c = X c := fun c p q => k1 c (by omega) (by omega) (by unfold scC; omega) (by omega) (by omega) (by omega)
  have hu := unD_same h1 hc
  exact ⟨h1.c hc, hu.1.trans h2, hu.2.trans h3, fun c p q r s t u v => (k1 c p q r s t u).trans (h4 c p q r s t u v), fun j p q => (k2 j p q).trans (h5 j p q), ⟨k3.1.trans h6.1, k3.2.trans h6.2⟩, k4.trans h7, fun z => k5 (h8 z)⟩
theorem HdC.pre {a b X : zMem} (k : KC a b) (h : HdC b X) (hs : SlO a) : HdC a X := by
  obtain ⟨h1, h2, h3, h4, h5, h6, h7, h8⟩ := h
  obtain ⟨k1, k2, k3, k4, k5⟩ := k
  have hc : ∀ c : Nat, 111 ≤ c → c < 216 → b c = a c := fun c p q => k1 c (by omega) (by unfold scC; omega) (by omega) (by omega) (by omega) (by omega)
  have hu := unD_same hs hc
  exact ⟨h1, h2.trans hu.1, h3.trans (lgO_c (fun c hc => k1 _ (by omega) (by unfold scC; omega) (by omega) (by omega) (by omega) (by omega))), fun c p q r s t u v => (h4 c p q r s t u v).trans (k1 c q r (by omega) s t u), fun j p q => (h5 j p q).trans (k2 j p q), ⟨h6.1.trans k3.1, h6.2.trans k3.2⟩, h7.trans k4, fun z => h8 (k5 z)⟩
theorem HdC.kp {a X Y : zMem} {w : Int} (h : HdC a X) (e1 : unD Y 111 = kpD (unD X 111) (lgO X (slC 111 (slI X 111 (X 111 3))), w)) (e2 : (0 ≤ Y 111 2 ∧ Y 111 2 < 17) ∧ 0 ≤ Y 111 3 ∧ Y 111 3 ≤ 16) (e3 : zfc [111, 113] X Y) : DdC w a Y := by
  obtain ⟨h1, h2, h3, h4, h5, h6, h7, h8⟩ := h
  refine ⟨⟨e2, fun s p q => ?_⟩, by rw [e1, h2, h3], fun c p q r s t u v => ?_, fun j p q => ?_, ⟨?_, ?_⟩, ?_, fun z => ?_⟩
  · have := slC_n ⟨p, q⟩
    rw [e3 _ (by simp only [List.mem_cons, List.not_mem_nil, or_false]; omega)]
    exact h1.2 s p q
  · rw [e3 c (by simp only [List.mem_cons, List.not_mem_nil, or_false]; omega)]
    exact h4 c p q r s t u v
  · rw [e3 0 (by decide)]
    exact h5 j p q
  · rw [e3 321 (by decide)]
    exact h6.1
  · rw [e3 321 (by decide)]
    exact h6.2
  · rw [e3 351 (by decide)]
    exact h7
  · rw [e3 326 (by decide)]
    exact h8 z
theorem hoC_w {d : Nat} {a : zMem} {K : zRo} (hd : 6 ≤ d) (hs : SlO a) (hl : 0 ≤ a 2 5 ∧ a 2 5 ≤ 16) (h : ∀ X, HdC a X → (∀ k : Nat, (k < 114 ∨ 216 ≤ k) → X k = a k) → K none X) : zCw d y_Un_hold [vr 111, vr 2] a K := by
  refine zCw.use (q_Un_hold (d := 5) (by decide) hs.1 hl) hd (fun q X e => ?_)
  obtain ⟨rfl, e1, e2, e3, e4⟩ := e
  have k1 := e3 111 (Or.inl (by decide))
  refine h X ⟨⟨by rw [k1]; exact hs.1, fun s p q => ?_⟩, e2, ?_, fun c _ _ _ _ _ _ r => e3 c (by omega), fun j _ _ => by rw [e3 0 (by decide)], ⟨by rw [e3 321 (by decide)], by rw [e3 321 (by decide)]⟩, by rw [e3 351 (by decide)], fun z => by rw [e3 326 (by decide)]; exact z⟩ e3
  · have h1 := hs.2 s p q
    rcases e4 s p q with e | e <;> rw [e]
    · exact h1
    · exact hl
  · have : slI X 111 (X 111 3) = slI a 111 (a 111 3) := by unfold slI; rw [k1]
    rw [this]
    exact e1
theorem m_Un_keep : Cond.instanceMethod y_Un_keep.1 ∈ zTb ∧ Cond.selects y_Un_keep.1.cls y_Un_keep.1 y_Un_keep.1 ∈ zTb ∧ Cond.initialized y_Un_keep.1.cls ∈ zTb ∧ Cond.code y_Un_keep.1 y_Un_keep.2.1 y_Un_keep.2.2.1 y_Un_keep.2.2.2 ∈ zTb ∧ (y_Un_keep.1.cls ≠ "java/lang/invoke/MethodHandle" ∧ y_Un_keep.1.cls ≠ "java/lang/invoke/VarHandle" ∧ (parseMethodDescriptor y_Un_keep.1.desc).map (fun d => d.parameters.length) = some 1) ∧ y_Un_keep.2.2.1 ≤ 20 :=
  ⟨(zTb_in 971 (by decide +kernel) (by decide +kernel)), (zTb_in 972 (by decide +kernel) (by decide +kernel)), (zTb_in 142 (by decide +kernel) (by decide +kernel)), (zTb_in 973 (by decide +kernel) (by decide +kernel)), by decide +kernel, by decide +kernel⟩
theorem lv_D_273 : zLv "DebtDoors" 273 y_Un_keep 1 10 := ⟨⟨(zTb_in 970 (by decide +kernel) (by decide +kernel)), m_Un_keep.1, m_Un_keep.2.1, m_Un_keep.2.2⟩, _, rfl, rfl⟩
def y_D_settled : zMt := (⟨"DebtDoors", "settled", "(II)I"⟩, prog_1_method_34_code, 3, some .int)
theorem d_D_settled_0 : decode prog_1_method_34_code 0 = .ok (.iload_n 2, 1) := by decide +kernel
theorem d_D_settled_1 : decode prog_1_method_34_code 1 = .ok (.ifCond .ge 9, 3) := by decide +kernel
theorem d_D_settled_4 : decode prog_1_method_34_code 4 = .ok (.aload_n 0, 1) := by decide +kernel
theorem d_D_settled_5 : decode prog_1_method_34_code 5 = .ok (.iload_n 2, 1) := by decide +kernel
theorem d_D_settled_6 : decode prog_1_method_34_code 6 = .ok (.invokevirtual 108, 3) := by decide +kernel
theorem d_D_settled_9 : decode prog_1_method_34_code 9 = .ok (.ireturn, 1) := by decide +kernel
theorem d_D_settled_10 : decode prog_1_method_34_code 10 = .ok (.aload_n 0, 1) := by decide +kernel
theorem d_D_settled_11 : decode prog_1_method_34_code 11 = .ok (.getfield 34, 3) := by decide +kernel
theorem d_D_settled_14 : decode prog_1_method_34_code 14 = .ok (.iload_n 1, 1) := by decide +kernel
theorem d_D_settled_15 : decode prog_1_method_34_code 15 = .ok (.invokevirtual 273, 3) := by decide +kernel
theorem d_D_settled_18 : decode prog_1_method_34_code 18 = .ok (.aload_n 0, 1) := by decide +kernel
theorem d_D_settled_19 : decode prog_1_method_34_code 19 = .ok (.iload_n 2, 1) := by decide +kernel
theorem d_D_settled_20 : decode prog_1_method_34_code 20 = .ok (.invokevirtual 130, 3) := by decide +kernel
theorem d_D_settled_23 : decode prog_1_method_34_code 23 = .ok (.ireturn, 1) := by decide +kernel
def w_D_settled {d : Nat} (hd : 1 ≤ d) := (show SS ("DebtDoors", prog_1_method_34_code, 3) (some .int) d 0 0 0 0 _ from (sS (p1 := 10) (sIf (pn := 10) (tt := 4) (xC (rNot (rJ1 (tgt := 10) k_ge (rIn 2 d_D_settled_0 rfl) d_D_settled_1 (by decide)))) (sRi (xV lv_D_108 (xA (rAi (rAr rA0 (rAn 0 d_D_settled_4 rfl)) (rIn 2 d_D_settled_5 rfl))) (by decide) d_D_settled_6) d_D_settled_9 rfl)) (sS (p1 := 18) (sV (xVv lv_D_273 (xA (rAi (rAr rA0 (rFr fl_D_34 nk_11_4 (rAn 0 d_D_settled_10 rfl) d_D_settled_11)) (rIn 1 d_D_settled_14 rfl))) (by decide) d_D_settled_15)) (sRi (xV lv_D_130 (xA (rAi (rAr rA0 (rAn 0 d_D_settled_18 rfl)) (rIn 2 d_D_settled_19 rfl))) (by decide) d_D_settled_20) d_D_settled_23 rfl))))
def y_M_goodOr : zMt := (⟨"DebtDoorsModel", "goodOr", "(I)I"⟩, prog_14_method_95_code, 2, some .int)
theorem d_M_goodOr_0 : decode prog_14_method_95_code 0 = .ok (.iload_n 1, 1) := by decide +kernel
theorem d_M_goodOr_1 : decode prog_14_method_95_code 1 = .ok (.ifCond .ge 11, 3) := by decide +kernel
theorem d_M_goodOr_4 : decode prog_14_method_95_code 4 = .ok (.aload_n 0, 1) := by decide +kernel
theorem d_M_goodOr_5 : decode prog_14_method_95_code 5 = .ok (.iload_n 1, 1) := by decide +kernel
theorem d_M_goodOr_6 : decode prog_14_method_95_code 6 = .ok (.invokevirtual 127, 3) := by decide +kernel
theorem d_M_goodOr_9 : decode prog_14_method_95_code 9 = .ok (.goto 8, 3) := by decide +kernel
theorem d_M_goodOr_12 : decode prog_14_method_95_code 12 = .ok (.aload_n 0, 1) := by decide +kernel
theorem d_M_goodOr_13 : decode prog_14_method_95_code 13 = .ok (.iload_n 1, 1) := by decide +kernel
theorem d_M_goodOr_14 : decode prog_14_method_95_code 14 = .ok (.invokevirtual 14, 3) := by decide +kernel
theorem d_M_goodOr_17 : decode prog_14_method_95_code 17 = .ok (.ireturn, 1) := by decide +kernel
def w_M_goodOr {d : Nat} (hd : 1 ≤ d) := (show SS ("DebtDoorsModel", prog_14_method_95_code, 2) (some .int) d 0 0 0 0 _ from (sRi (xT2 (xC (rNot (rJ1 (tgt := 12) k_ge (rIn 1 d_M_goodOr_0 rfl) d_M_goodOr_1 (by decide)))) (xGoE (p2 := 17) (xV lv_M_127 (xA (rAi (rAr rA0 (rAn 0 d_M_goodOr_4 rfl)) (rIn 1 d_M_goodOr_5 rfl))) (by decide) d_M_goodOr_6) d_M_goodOr_9 (by decide)) (xV lv_M_14 (xA (rAi (rAr rA0 (rAn 0 d_M_goodOr_12 rfl)) (rIn 1 d_M_goodOr_13 rfl))) (by decide) d_M_goodOr_14)) d_M_goodOr_17 rfl))
theorem seD_w {d : Nat} {a X : zMem} {w c : Int} {K : zRo} (hd : 6 ≤ d) (hc : -6 ≤ c) (hr : okR (X 354)) (hX : HdC a X) (h1 : c < 0 → K (some (vi c)) (rfD X c)) (h2 : 0 ≤ c → ∀ Y, DdC w a Y → zfc [111, 113] X Y → K (some (vi c)) (zm Y 0 15 0)) : zCw d y_D_settled [vr 0, vi w, vi c] X K := by
  refine zCw.use (d' := 5) (zSp.ss [vr 0, vi w, vi c] rfl (w_D_settled (d := 5) (by decide)) rfl rfl ?_) hd (fun q μ' e => e)
  (try simp only [zit_e, Bool.and_eq_true, Bool.or_eq_true, Bool.not_eq_true', Bool.and_eq_false_iff, Bool.or_eq_false_iff, Bool.not_eq_false', zbe, zdt, zdf, zb2_p, zbp_0, zbp_1, zbp_inj, zbp_01, Bool.true_eq_false, Bool.false_eq_true, true_and, and_true, Decidable.not_not, Classical.not_not, implies_true, List.nil_append, List.cons_append, List.append_assoc, Option.some.injEq, Sum.inl.injEq, zSw_c, zSw_n]); (try simp only [zit_e, Bool.and_eq_true, Bool.or_eq_true, Bool.not_eq_true', Bool.and_eq_false_iff, Bool.or_eq_false_iff, Bool.not_eq_false', zbe, zdt, zdf, zb2_p, zbp_0, zbp_1, zbp_inj, zbp_01, Bool.true_eq_false, Bool.false_eq_true, true_and, and_true, Decidable.not_not, Classical.not_not, implies_true, List.nil_append, List.cons_append, List.append_assoc, Option.some.injEq, Sum.inl.injEq, zSw_c, zSw_n, zc_0, zc_111]); (try simp only [zi_cs, zi_c0, zii_cs, zii_c0, zl_cs, zl_c0, zll_cs, zll_c0, zr_cs, zr_c0, zrr_cs, zrr_c0, zxs_cs, zxs_c0, zxx_cs, zxx_c0, zfree_c0, zfree_c1, zfree_cs, zfree_cz, zlong_i, zlong_r, zlong_x, zset_0, zset_s, true_and, and_true, Option.some.injEq, Sum.inl.injEq, Sum.inr.injEq, zb2_p, zbp_0, zbp_1, zbp_inj, zbp_01, Nat.zero_add, Nat.reduceAdd, implies_true, List.nil_append, List.cons_append, List.append_assoc, Int.not_lt, Int.not_le, Decidable.not_not, Int.zero_add, Int.reduceLE, Int.reduceLT, Int.reduceEq, Int.reduceNe, Int.reduceAdd, Int.reduceSub, Int.reduceMul, Int.reduceNeg, Int.reduceToNat, Nat.reduceMul, Nat.reduceLT, Nat.reduceEqDiff, and_self, ite_true, ite_false, zx1, zx2, zRecv, List.length_cons, List.length_nil, ne_eq, not_true_eq_false, not_false_eq_true, true_or, or_true, or_false, false_or, and_false, false_and, zf01, zf10, reduceCtorEq, zSw_c, zSw_n, zm_r, zit_T, zit_F, false_implies, true_implies, zc_0, zc_111])
  refine zif (fun c1 => rfD_w (by omega) (by omega) hr ⟨_, rfl, h1 c1⟩) (fun c1 => ?_)
  refine zCw.use (q_Un_keep (d := 2) (by decide) hX.1.1) (by decide) (fun q Y e => ?_)
  obtain ⟨rfl, e1, e2, e3⟩ := e
  exact ⟨rfl, acD_w (by omega) ⟨_, rfl, h2 (by omega) Y (hX.kp e1 e2 e3) e3⟩⟩
theorem goM_w {d : Nat} {X : zMem} {c : Int} {K : zRo} (hd : 4 ≤ d) (hc : -6 ≤ c) (hr : okR (X 356)) (h1 : c < 0 → K (some (vi c)) (rfM X c)) (h2 : 0 ≤ c → K (some (vi c)) (zm X 355 0 0)) : zCw d y_M_goodOr [vr 355, vi c] X K := by
  refine zCw.use (d' := 3) (zSp.ss [vr 355, vi c] rfl (w_M_goodOr (d := 3) (by decide)) rfl rfl ?_) hd (fun q μ' e => e)
  (try simp only [zit_e, Bool.and_eq_true, Bool.or_eq_true, Bool.not_eq_true', Bool.and_eq_false_iff, Bool.or_eq_false_iff, Bool.not_eq_false', zbe, zdt, zdf, zb2_p, zbp_0, zbp_1, zbp_inj, zbp_01, Bool.true_eq_false, Bool.false_eq_true, true_and, and_true, Decidable.not_not, Classical.not_not, implies_true, List.nil_append, List.cons_append, List.append_assoc, Option.some.injEq, Sum.inl.injEq, zSw_c, zSw_n]); (try simp only [zit_e, Bool.and_eq_true, Bool.or_eq_true, Bool.not_eq_true', Bool.and_eq_false_iff, Bool.or_eq_false_iff, Bool.not_eq_false', zbe, zdt, zdf, zb2_p, zbp_0, zbp_1, zbp_inj, zbp_01, Bool.true_eq_false, Bool.false_eq_true, true_and, and_true, Decidable.not_not, Classical.not_not, implies_true, List.nil_append, List.cons_append, List.append_assoc, Option.some.injEq, Sum.inl.injEq, zSw_c, zSw_n, zc_355]); (try simp only [zi_cs, zi_c0, zii_cs, zii_c0, zl_cs, zl_c0, zll_cs, zll_c0, zr_cs, zr_c0, zrr_cs, zrr_c0, zxs_cs, zxs_c0, zxx_cs, zxx_c0, zfree_c0, zfree_c1, zfree_cs, zfree_cz, zlong_i, zlong_r, zlong_x, zset_0, zset_s, true_and, and_true, Option.some.injEq, Sum.inl.injEq, Sum.inr.injEq, zb2_p, zbp_0, zbp_1, zbp_inj, zbp_01, Nat.zero_add, Nat.reduceAdd, implies_true, List.nil_append, List.cons_append, List.append_assoc, Int.not_lt, Int.not_le, Decidable.not_not, Int.zero_add, Int.reduceLE, Int.reduceLT, Int.reduceEq, Int.reduceNe, Int.reduceAdd, Int.reduceSub, Int.reduceMul, Int.reduceNeg, Int.reduceToNat, Nat.reduceMul, Nat.reduceLT, Nat.reduceEqDiff, and_self, ite_true, ite_false, zx1, zx2, zRecv, List.length_cons, List.length_nil, ne_eq, not_true_eq_false, not_false_eq_true, true_or, or_true, or_false, false_or, and_false, false_and, zf01, zf10, reduceCtorEq, zSw_c, zSw_n, zm_r, zit_T, zit_F, false_implies, true_implies, zc_355])
  refine zif (fun c1 => rfM_w (by omega) (by omega) hr ⟨_, rfl, h1 c1⟩) (fun c1 => ?_)
  refine zCw.use (q_M_good (d := 1) (by decide)) (by decide) (fun q Y e => ?_)
  obtain ⟨rfl, rfl⟩ := e
  exact ⟨_, rfl, h2 (by omega)⟩
/-! a deed on both sides -/
def DeC (a : zMem) (w c : Int) (A : Lg) (v : Int) (μ1 : zMem) : Prop := v = c ∧ ∃ Y, DdC w a Y ∧ (lgO Y 2 = A ∧ 0 ≤ Y 2 5) ∧ (∀ c : Nat, (c = 1 ∨ 8 ≤ c ∧ c ≤ 34) → Y c = a c) ∧ μ1 = zm Y 0 15 0
def DeM (b : zMem) (w c : Int) (A : Lg) (v : Int) (μ2 : zMem) : Prop := v = c ∧ ∃ Y, DdM w b Y ∧ (lgM Y = A ∧ 0 ≤ Y 357 71) ∧ (∀ i : Int, 73 ≤ i → Y 357 i = b 357 i) ∧ μ2 = zm Y 355 0 0
theorem LC.de {yD yM : zMt} {as : List zV} (h : ∀ (k : Int) (μ : zMem) (Z : Zt) (F : Option (List Cls)) (A : Lg) (w : Int → Int), 0 ≤ k → k ≤ 1000 → JJ k μ μ → CTx μ Z F A w → MTx μ Z F A w → ∃ (c x v : Int) (A' : Lg), (-6 ≤ c ∧ 0 ≤ x ∧ x ≤ 5) ∧ (0 ≤ c → okA A') ∧ zCw 101 yD (vr 0 :: as) μ (OD k μ c (DeC μ x v A')) ∧ ∀ μ1, HM μ μ1 → zCw 101 yM (vr 355 :: as) μ1 (OM k μ1 c (DeM μ1 x v A'))) : LC yD yM as := LC.mk (fun k μ h0 h1 hJ => by
  obtain ⟨Z, F, A, w, hC, hM⟩ := hJ.ctx
  obtain ⟨c, x, v, A', h2, h3, h4, h5⟩ := h k μ Z F A w h0 h1 hJ hC hM
  refine ⟨c, DeC μ x v A', fun μ1 => DeM μ1 x v A', h2.1, h4, h5, ?_⟩
  rintro hc w1 w2 μ1 μ2 hm ⟨rfl, X, x1, ⟨x2, x3⟩, x4, eD⟩ hh ⟨rfl, Y, y1, ⟨y2, y3⟩, y4, rfl⟩
  have hJ1 := hJ.m HC.rf hm
  exact ⟨rfl, JJ.eqD eD (JJ.ok (hJ1.deed h2.2 x1 y1 (hJ1.1.lg x4 y4 (h3 hc) x2 x3 y2 y3)) (by omega) rfl)⟩)

