/-! how deep one gets now; doors -/
theorem TJ.fo {μ : zMem} (h : TJ μ (μ 357)) : ∃ F, FoC μ F ∧ FoM μ F := by
  obtain ⟨a1, a2, a3, a4, a5, a6, a7, a8, a9, a10⟩ := h
  by_cases c : μ 1 11 = -1
  · exact ⟨none, Or.inl ⟨c, rfl⟩, Or.inl ⟨by rw [a10.1]; exact c, rfl⟩⟩
  · have hl := a9.1
    have hf := a10.2
    obtain ⟨cls, cc, Q, ⟨p1, p2, p3, p4⟩, p5, p6, p7, p8, p9⟩ := a9.2.2 (μ 1 11) (by omega) hf.2
    exact ⟨some cls, Or.inr ⟨μ 1 11, cls, rfl, by omega, rfl, p7 _ p1 p2 p3 p4, p6⟩, Or.inr ⟨μ 1 11, Q, cls, cc, a10.1, by omega, rfl, p8, p9, p6⟩⟩
theorem TU.t {T : zMem} {κ : Int → Int} (h : TU T κ) : tL 7 κ = tL 7 (T 3) := tL_congr (fun i a b => h.2 i a (by omega))
theorem JJ.ctx {k : Int} {μ : zMem} (h : JJ k μ μ) : ∃ (Z : Zt) (F : Option (List Cls)) (A : Lg) (w : Int → Int), CTx μ Z F A w ∧ MTx μ Z F A w := by
  obtain ⟨F, f1, f2⟩ := h.1.fo
  have hw := h.2.2.2.2.2.2
  obtain ⟨a1, a2, a3, a4, a5, a6, a7, a8, a9, a10⟩ := h.1
  have hZ : okZ (μ 1 6, μ 8, μ 9, μ 1 7) := ⟨a1.1, fun i x y => ⟨(a3 i x y).1.2, (a3 i x y).2.2⟩, a6.1⟩
  have hA : okA (lgO μ 2) := by
    refine ⟨fun i x y => ?_, a4.l, a5.1⟩
    have : gL 0 (lgO μ 2).1 i = μ 3 i := gL_tL x (by omega)
    rw [this]
    exact a2.1 i x y
  refine ⟨(μ 1 6, μ 8, μ 9, μ 1 7), F, lgO μ 2, μ 326, ⟨hZ, hA, ⟨rfl, fun _ _ _ => ⟨rfl, rfl⟩, rfl⟩, ⟨rfl, a4.1.1.1⟩, f1, fun _ _ => rfl, hw⟩, hZ, hA, ⟨a1.2, fun i x y => ⟨(a3 i x y).1.1, (a3 i x y).2.1⟩, a6.2⟩, ⟨?_, by rw [a4.2.1]; exact a4.1.1.1⟩, f2, hw⟩
  unfold lgM lgO
  rw [a2.t, a5.2]
  have := a4.2.2
  show (_, dbM μ, _) = (_, dbD μ, _)
  rw [← this]
  rfl
/-- calls that only tell, by the town -/
theorem LC.tl {yD yM : zMt} {as : List zV} {f : Zt → Option (List Cls) → Lg → (Int → Int) → Int} (hD : ∀ (μ : zMem) (Z : Zt) (F : Option (List Cls)) (A : Lg) (w : Int → Int), CTx μ Z F A w → zCw 101 yD (vr 0 :: as) μ (fun q μ' => q = some (vi (f Z F A w)) ∧ HM μ μ' ∧ KC μ μ')) (hM : ∀ (μ : zMem) (Z : Zt) (F : Option (List Cls)) (A : Lg) (w : Int → Int), MTx μ Z F A w → zCw 101 yM (vr 355 :: as) μ (fun q μ' => q = some (vi (f Z F A w)) ∧ HC μ μ' ∧ KM μ μ')) : LC yD yM as := LC.mk (fun k μ h0 h1 hJ => by
  obtain ⟨Z, F, A, w, hC, hR⟩ := hJ.ctx
  refine ⟨0, fun v μ1 => v = f Z F A w ∧ KC μ μ1, fun μ1 v μ2 => v = f Z F A w ∧ KM μ1 μ2, by decide, ?_, ?_, ?_⟩
  · obtain ⟨d1, R1, p1, p2, p3⟩ := hD μ Z F A w hC
    exact ⟨d1, R1, p1, p2, fun q μ' e => by
      obtain ⟨rfl, e1, e2⟩ := p3 q μ' e
      exact OD.yes (by decide) e1 ⟨rfl, e2⟩⟩
  · intro μ1 hm
    obtain ⟨d1, R1, p1, p2, p3⟩ := hM μ1 Z F A w (hR.k (hm 357 (by decide)))
    exact ⟨d1, R1, p1, p2, fun q μ' e => by
      obtain ⟨rfl, e1, e2⟩ := p3 q μ' e
      exact OM.yes (by decide) e1 ⟨rfl, e2⟩⟩
  · rintro c v1 v2 μ1 μ2 hm ⟨rfl, e1⟩ hc ⟨rfl, e2⟩
    exact ⟨rfl, (hJ.t (Int.le_refl _) e1 KM.rf |>.m HC.rf hm).t (by omega) KC.rf e2⟩)
theorem m_Ru_depth : Cond.instanceMethod y_Ru_depth.1 ∈ zTb ∧ Cond.selects y_Ru_depth.1.cls y_Ru_depth.1 y_Ru_depth.1 ∈ zTb ∧ Cond.initialized y_Ru_depth.1.cls ∈ zTb ∧ Cond.code y_Ru_depth.1 y_Ru_depth.2.1 y_Ru_depth.2.2.1 y_Ru_depth.2.2.2 ∈ zTb ∧ (y_Ru_depth.1.cls ≠ "java/lang/invoke/MethodHandle" ∧ y_Ru_depth.1.cls ≠ "java/lang/invoke/VarHandle" ∧ (parseMethodDescriptor y_Ru_depth.1.desc).map (fun d => d.parameters.length) = some 5) ∧ y_Ru_depth.2.2.1 ≤ 20 :=
  ⟨(zTb_in 995 (by decide +kernel) (by decide +kernel)), (zTb_in 996 (by decide +kernel) (by decide +kernel)), (zTb_in 144 (by decide +kernel) (by decide +kernel)), (zTb_in 997 (by decide +kernel) (by decide +kernel)), by decide +kernel, by decide +kernel⟩
theorem lv_Ru_30 : zLv "DebtDoors$Rules" 30 y_Ru_depth 5 7 := ⟨⟨(zTb_in 994 (by decide +kernel) (by decide +kernel)), m_Ru_depth.1, m_Ru_depth.2.1, m_Ru_depth.2.2⟩, _, rfl, rfl⟩
def y_Ru_depthNow : zMt := (⟨"DebtDoors$Rules", "depthNow", "(LDebtDoors$Town;II)I"⟩, prog_9_method_2_code, 5, some .int)
theorem d_Ru_depthNow_0 : decode prog_9_method_2_code 0 = .ok (.aload_n 1, 1) := by decide +kernel
theorem d_Ru_depthNow_1 : decode prog_9_method_2_code 1 = .ok (.getfield 18, 3) := by decide +kernel
theorem d_Ru_depthNow_4 : decode prog_9_method_2_code 4 = .ok (.astore 4, 2) := by decide +kernel
theorem d_Ru_depthNow_6 : decode prog_9_method_2_code 6 = .ok (.aload_n 0, 1) := by decide +kernel
theorem d_Ru_depthNow_7 : decode prog_9_method_2_code 7 = .ok (.aload_n 1, 1) := by decide +kernel
theorem d_Ru_depthNow_8 : decode prog_9_method_2_code 8 = .ok (.iload_n 2, 1) := by decide +kernel
theorem d_Ru_depthNow_9 : decode prog_9_method_2_code 9 = .ok (.iload_n 3, 1) := by decide +kernel
theorem d_Ru_depthNow_10 : decode prog_9_method_2_code 10 = .ok (.aload 4, 2) := by decide +kernel
theorem d_Ru_depthNow_12 : decode prog_9_method_2_code 12 = .ok (.iload_n 2, 1) := by decide +kernel
theorem d_Ru_depthNow_13 : decode prog_9_method_2_code 13 = .ok (.iload_n 3, 1) := by decide +kernel
theorem d_Ru_depthNow_14 : decode prog_9_method_2_code 14 = .ok (.invokevirtual 24, 3) := by decide +kernel
theorem d_Ru_depthNow_17 : decode prog_9_method_2_code 17 = .ok (.aload 4, 2) := by decide +kernel
theorem d_Ru_depthNow_19 : decode prog_9_method_2_code 19 = .ok (.iload_n 3, 1) := by decide +kernel
theorem d_Ru_depthNow_20 : decode prog_9_method_2_code 20 = .ok (.iload_n 2, 1) := by decide +kernel
theorem d_Ru_depthNow_21 : decode prog_9_method_2_code 21 = .ok (.invokevirtual 24, 3) := by decide +kernel
theorem d_Ru_depthNow_24 : decode prog_9_method_2_code 24 = .ok (.invokevirtual 30, 3) := by decide +kernel
theorem d_Ru_depthNow_27 : decode prog_9_method_2_code 27 = .ok (.ireturn, 1) := by decide +kernel
def w_Ru_depthNow {d : Nat} (hd : 2 ≤ d) := (show SS ("DebtDoors$Rules", prog_9_method_2_code, 5) (some .int) d 0 0 0 0 _ from (sS (p1 := 6) (sR (rFr fl_Ru_18 nk_9_0 (rAn 1 d_Ru_depthNow_0 rfl) d_Ru_depthNow_1) d_Ru_depthNow_4 (by decide)) (sRi (xV lv_Ru_30 (xA (rAi (rAi (rAi (rAi (rAr (rAr rA0 (rAn 0 d_Ru_depthNow_6 rfl)) (rAn 1 d_Ru_depthNow_7 rfl)) (rIn 2 d_Ru_depthNow_8 rfl)) (rIn 3 d_Ru_depthNow_9 rfl)) (rV p_Le_owed (Nat.le_trans (Nat.le_of_ble_eq_true rfl) hd) lv_Ru_24 (rAi (rAi (rAr rA0 (rAl d_Ru_depthNow_10)) (rIn 2 d_Ru_depthNow_12 rfl)) (rIn 3 d_Ru_depthNow_13 rfl)) (by decide) d_Ru_depthNow_14)) (rV p_Le_owed (Nat.le_trans (Nat.le_of_ble_eq_true rfl) hd) lv_Ru_24 (rAi (rAi (rAr rA0 (rAl d_Ru_depthNow_17)) (rIn 3 d_Ru_depthNow_19 rfl)) (rIn 2 d_Ru_depthNow_20 rfl)) (by decide) d_Ru_depthNow_21))) (by decide) d_Ru_depthNow_24) d_Ru_depthNow_27 rfl)))
theorem m_M_deepBy : Cond.instanceMethod y_M_deepBy.1 ∈ zTb ∧ Cond.selects y_M_deepBy.1.cls y_M_deepBy.1 y_M_deepBy.1 ∈ zTb ∧ Cond.initialized y_M_deepBy.1.cls ∈ zTb ∧ Cond.code y_M_deepBy.1 y_M_deepBy.2.1 y_M_deepBy.2.2.1 y_M_deepBy.2.2.2 ∈ zTb ∧ (y_M_deepBy.1.cls ≠ "java/lang/invoke/MethodHandle" ∧ y_M_deepBy.1.cls ≠ "java/lang/invoke/VarHandle" ∧ (parseMethodDescriptor y_M_deepBy.1.desc).map (fun d => d.parameters.length) = some 4) ∧ y_M_deepBy.2.2.1 ≤ 20 :=
  ⟨(zTb_in 1801 (by decide +kernel) (by decide +kernel)), (List.mem_filter.mpr ⟨List.mem_append_left _ (by decide +kernel), by decide +kernel⟩), (zTb_in 151 (by decide +kernel) (by decide +kernel)), (zTb_in 1802 (by decide +kernel) (by decide +kernel)), by decide +kernel, by decide +kernel⟩
theorem lv_M_338 : zLv "DebtDoorsModel" 338 y_M_deepBy 4 12 := ⟨⟨(zTb_in 1799 (by decide +kernel) (by decide +kernel)), m_M_deepBy.1, m_M_deepBy.2.1, m_M_deepBy.2.2⟩, _, rfl, rfl⟩
def y_M_deepNow : zMt := (⟨"DebtDoorsModel", "deepNow", "(II)I"⟩, prog_14_method_76_code, 3, some .int)
theorem d_M_deepNow_0 : decode prog_14_method_76_code 0 = .ok (.aload_n 0, 1) := by decide +kernel
theorem d_M_deepNow_1 : decode prog_14_method_76_code 1 = .ok (.iload_n 1, 1) := by decide +kernel
theorem d_M_deepNow_2 : decode prog_14_method_76_code 2 = .ok (.iload_n 2, 1) := by decide +kernel
theorem d_M_deepNow_3 : decode prog_14_method_76_code 3 = .ok (.aload_n 0, 1) := by decide +kernel
theorem d_M_deepNow_4 : decode prog_14_method_76_code 4 = .ok (.iload_n 1, 1) := by decide +kernel
theorem d_M_deepNow_5 : decode prog_14_method_76_code 5 = .ok (.iload_n 2, 1) := by decide +kernel
theorem d_M_deepNow_6 : decode prog_14_method_76_code 6 = .ok (.invokevirtual 178, 3) := by decide +kernel
theorem d_M_deepNow_9 : decode prog_14_method_76_code 9 = .ok (.aload_n 0, 1) := by decide +kernel
theorem d_M_deepNow_10 : decode prog_14_method_76_code 10 = .ok (.iload_n 2, 1) := by decide +kernel
theorem d_M_deepNow_11 : decode prog_14_method_76_code 11 = .ok (.iload_n 1, 1) := by decide +kernel
theorem d_M_deepNow_12 : decode prog_14_method_76_code 12 = .ok (.invokevirtual 178, 3) := by decide +kernel
theorem d_M_deepNow_15 : decode prog_14_method_76_code 15 = .ok (.invokevirtual 338, 3) := by decide +kernel
theorem d_M_deepNow_18 : decode prog_14_method_76_code 18 = .ok (.ireturn, 1) := by decide +kernel
def w_M_deepNow {d : Nat} (hd : 3 ≤ d) := (show SS ("DebtDoorsModel", prog_14_method_76_code, 3) (some .int) d 0 0 0 0 _ from (sRi (xV lv_M_338 (xA (rAi (rAi (rAi (rAi (rAr rA0 (rAn 0 d_M_deepNow_0 rfl)) (rIn 1 d_M_deepNow_1 rfl)) (rIn 2 d_M_deepNow_2 rfl)) (rV p_M_owed (Nat.le_trans (Nat.le_of_ble_eq_true rfl) hd) lv_M_178 (rAi (rAi (rAr rA0 (rAn 0 d_M_deepNow_3 rfl)) (rIn 1 d_M_deepNow_4 rfl)) (rIn 2 d_M_deepNow_5 rfl)) (by decide) d_M_deepNow_6)) (rV p_M_owed (Nat.le_trans (Nat.le_of_ble_eq_true rfl) hd) lv_M_178 (rAi (rAi (rAr rA0 (rAn 0 d_M_deepNow_9 rfl)) (rIn 2 d_M_deepNow_10 rfl)) (rIn 1 d_M_deepNow_11 rfl)) (by decide) d_M_deepNow_12))) (by decide) d_M_deepNow_15) d_M_deepNow_18 rfl))
theorem m_Ru_depthNow : Cond.instanceMethod y_Ru_depthNow.1 ∈ zTb ∧ Cond.selects y_Ru_depthNow.1.cls y_Ru_depthNow.1 y_Ru_depthNow.1 ∈ zTb ∧ Cond.initialized y_Ru_depthNow.1.cls ∈ zTb ∧ Cond.code y_Ru_depthNow.1 y_Ru_depthNow.2.1 y_Ru_depthNow.2.2.1 y_Ru_depthNow.2.2.2 ∈ zTb ∧ (y_Ru_depthNow.1.cls ≠ "java/lang/invoke/MethodHandle" ∧ y_Ru_depthNow.1.cls ≠ "java/lang/invoke/VarHandle" ∧ (parseMethodDescriptor y_Ru_depthNow.1.desc).map (fun d => d.parameters.length) = some 3) ∧ y_Ru_depthNow.2.2.1 ≤ 20 :=
  ⟨(zTb_in 991 (by decide +kernel) (by decide +kernel)), (zTb_in 992 (by decide +kernel) (by decide +kernel)), (zTb_in 144 (by decide +kernel) (by decide +kernel)), (zTb_in 993 (by decide +kernel) (by decide +kernel)), by decide +kernel, by decide +kernel⟩
theorem lv_D_289 : zLv "DebtDoors" 289 y_Ru_depthNow 3 7 := ⟨⟨(zTb_in 990 (by decide +kernel) (by decide +kernel)), m_Ru_depthNow.1, m_Ru_depthNow.2.1, m_Ru_depthNow.2.2⟩, _, rfl, rfl⟩
theorem nk_11_7 : zNk 11 7 = none := rfl
def y_D_deep : zMt := (⟨"DebtDoors", "deep", "(II)I"⟩, prog_1_method_25_code, 3, some .int)
theorem d_D_deep_0 : decode prog_1_method_25_code 0 = .ok (.aload_n 0, 1) := by decide +kernel
theorem d_D_deep_1 : decode prog_1_method_25_code 1 = .ok (.getfield 12, 3) := by decide +kernel
theorem d_D_deep_4 : decode prog_1_method_25_code 4 = .ok (.iload_n 1, 1) := by decide +kernel
theorem d_D_deep_5 : decode prog_1_method_25_code 5 = .ok (.iload_n 2, 1) := by decide +kernel
theorem d_D_deep_6 : decode prog_1_method_25_code 6 = .ok (.invokevirtual 173, 3) := by decide +kernel
theorem d_D_deep_9 : decode prog_1_method_25_code 9 = .ok (.ifCond .eq 19, 3) := by decide +kernel
theorem d_D_deep_12 : decode prog_1_method_25_code 12 = .ok (.aload_n 0, 1) := by decide +kernel
theorem d_D_deep_13 : decode prog_1_method_25_code 13 = .ok (.getfield 51, 3) := by decide +kernel
theorem d_D_deep_16 : decode prog_1_method_25_code 16 = .ok (.aload_n 0, 1) := by decide +kernel
theorem d_D_deep_17 : decode prog_1_method_25_code 17 = .ok (.getfield 12, 3) := by decide +kernel
theorem d_D_deep_20 : decode prog_1_method_25_code 20 = .ok (.iload_n 1, 1) := by decide +kernel
theorem d_D_deep_21 : decode prog_1_method_25_code 21 = .ok (.iload_n 2, 1) := by decide +kernel
theorem d_D_deep_22 : decode prog_1_method_25_code 22 = .ok (.invokevirtual 289, 3) := by decide +kernel
theorem d_D_deep_25 : decode prog_1_method_25_code 25 = .ok (.goto 4, 3) := by decide +kernel
theorem d_D_deep_28 : decode prog_1_method_25_code 28 = .ok (.iconst (-1), 1) := by decide +kernel
theorem d_D_deep_29 : decode prog_1_method_25_code 29 = .ok (.ireturn, 1) := by decide +kernel
def w_D_deep {d : Nat} (hd : 3 ≤ d) := (show SS ("DebtDoors", prog_1_method_25_code, 3) (some .int) d 0 0 0 0 _ from (sRi (xT2 (xC (rNot (rJ1 (tgt := 28) k_eq (rV p_To_hasPair (Nat.le_trans (Nat.le_of_ble_eq_true rfl) hd) lv_D_173 (rAi (rAi (rAr rA0 (rFr fl_D_12 nk_11_0 (rAn 0 d_D_deep_0 rfl) d_D_deep_1)) (rIn 1 d_D_deep_4 rfl)) (rIn 2 d_D_deep_5 rfl)) (by decide) d_D_deep_6) d_D_deep_9 (by decide)))) (xGoE (p2 := 29) (xV lv_D_289 (xA (rAi (rAi (rAr (rAr rA0 (rFr fl_D_51 nk_11_7 (rAn 0 d_D_deep_12 rfl) d_D_deep_13)) (rFr fl_D_12 nk_11_0 (rAn 0 d_D_deep_16 rfl) d_D_deep_17)) (rIn 1 d_D_deep_20 rfl)) (rIn 2 d_D_deep_21 rfl))) (by decide) d_D_deep_22) d_D_deep_25 (by decide)) (xE (rI d_D_deep_28 rfl))) d_D_deep_29 rfl))
theorem m_M_areTwo : Cond.instanceMethod y_M_areTwo.1 ∈ zTb ∧ Cond.selects y_M_areTwo.1.cls y_M_areTwo.1 y_M_areTwo.1 ∈ zTb ∧ Cond.initialized y_M_areTwo.1.cls ∈ zTb ∧ Cond.code y_M_areTwo.1 y_M_areTwo.2.1 y_M_areTwo.2.2.1 y_M_areTwo.2.2.2 ∈ zTb ∧ (y_M_areTwo.1.cls ≠ "java/lang/invoke/MethodHandle" ∧ y_M_areTwo.1.cls ≠ "java/lang/invoke/VarHandle" ∧ (parseMethodDescriptor y_M_areTwo.1.desc).map (fun d => d.parameters.length) = some 2) ∧ y_M_areTwo.2.2.1 ≤ 20 :=
  ⟨(zTb_in 1793 (by decide +kernel) (by decide +kernel)), (List.mem_filter.mpr ⟨List.mem_append_left _ (by decide +kernel), by decide +kernel⟩), (zTb_in 151 (by decide +kernel) (by decide +kernel)), (zTb_in 1794 (by decide +kernel) (by decide +kernel)), by decide +kernel, by decide +kernel⟩
theorem lv_M_345 : zLv "DebtDoorsModel" 345 y_M_areTwo 2 12 := ⟨⟨(zTb_in 1791 (by decide +kernel) (by decide +kernel)), m_M_areTwo.1, m_M_areTwo.2.1, m_M_areTwo.2.2⟩, _, rfl, rfl⟩
theorem m_M_deepNow : Cond.instanceMethod y_M_deepNow.1 ∈ zTb ∧ Cond.selects y_M_deepNow.1.cls y_M_deepNow.1 y_M_deepNow.1 ∈ zTb ∧ Cond.initialized y_M_deepNow.1.cls ∈ zTb ∧ Cond.code y_M_deepNow.1 y_M_deepNow.2.1 y_M_deepNow.2.2.1 y_M_deepNow.2.2.2 ∈ zTb ∧ (y_M_deepNow.1.cls ≠ "java/lang/invoke/MethodHandle" ∧ y_M_deepNow.1.cls ≠ "java/lang/invoke/VarHandle" ∧ (parseMethodDescriptor y_M_deepNow.1.desc).map (fun d => d.parameters.length) = some 2) ∧ y_M_deepNow.2.2.1 ≤ 20 :=
  ⟨(zTb_in 1797 (by decide +kernel) (by decide +kernel)), (List.mem_filter.mpr ⟨List.mem_append_left _ (by decide +kernel), by decide +kernel⟩), (zTb_in 151 (by decide +kernel) (by decide +kernel)), (zTb_in 1798 (by decide +kernel) (by decide +kernel)), by decide +kernel, by decide +kernel⟩
theorem lv_M_348 : zLv "DebtDoorsModel" 348 y_M_deepNow 2 12 := ⟨⟨(zTb_in 1795 (by decide +kernel) (by decide +kernel)), m_M_deepNow.1, m_M_deepNow.2.1, m_M_deepNow.2.2⟩, _, rfl, rfl⟩
def y_M_deep : zMt := (⟨"DebtDoorsModel", "deep", "(II)I"⟩, prog_14_method_81_code, 3, some .int)
theorem d_M_deep_0 : decode prog_14_method_81_code 0 = .ok (.aload_n 0, 1) := by decide +kernel
theorem d_M_deep_1 : decode prog_14_method_81_code 1 = .ok (.iload_n 1, 1) := by decide +kernel
theorem d_M_deep_2 : decode prog_14_method_81_code 2 = .ok (.iload_n 2, 1) := by decide +kernel
theorem d_M_deep_3 : decode prog_14_method_81_code 3 = .ok (.invokevirtual 345, 3) := by decide +kernel
theorem d_M_deep_6 : decode prog_14_method_81_code 6 = .ok (.ifCond .eq 12, 3) := by decide +kernel
theorem d_M_deep_9 : decode prog_14_method_81_code 9 = .ok (.aload_n 0, 1) := by decide +kernel
theorem d_M_deep_10 : decode prog_14_method_81_code 10 = .ok (.iload_n 1, 1) := by decide +kernel
theorem d_M_deep_11 : decode prog_14_method_81_code 11 = .ok (.iload_n 2, 1) := by decide +kernel
theorem d_M_deep_12 : decode prog_14_method_81_code 12 = .ok (.invokevirtual 348, 3) := by decide +kernel
theorem d_M_deep_15 : decode prog_14_method_81_code 15 = .ok (.goto 4, 3) := by decide +kernel
theorem d_M_deep_18 : decode prog_14_method_81_code 18 = .ok (.iconst (-1), 1) := by decide +kernel
theorem d_M_deep_19 : decode prog_14_method_81_code 19 = .ok (.ireturn, 1) := by decide +kernel
def w_M_deep {d : Nat} (hd : 4 ≤ d) := (show SS ("DebtDoorsModel", prog_14_method_81_code, 3) (some .int) d 0 0 0 0 _ from (sRi (xT2 (xC (rNot (rJ1 (tgt := 18) k_eq (rV p_M_areTwo (Nat.le_trans (Nat.le_of_ble_eq_true rfl) hd) lv_M_345 (rAi (rAi (rAr rA0 (rAn 0 d_M_deep_0 rfl)) (rIn 1 d_M_deep_1 rfl)) (rIn 2 d_M_deep_2 rfl)) (by decide) d_M_deep_3) d_M_deep_6 (by decide)))) (xGoE (p2 := 19) (xV lv_M_348 (xA (rAi (rAi (rAr rA0 (rAn 0 d_M_deep_9 rfl)) (rIn 1 d_M_deep_10 rfl)) (rIn 2 d_M_deep_11 rfl))) (by decide) d_M_deep_12) d_M_deep_15 (by decide)) (xE (rI d_M_deep_18 rfl))) d_M_deep_19 rfl))
theorem q_C_depthNow {d : Nat} (hd : 7 ≤ d) {μ : zMem} {Z : Zt} {F : Option (List Cls)} {A : Lg} {w : Int → Int} {o v : Int} (h : CTx μ Z F A w) (ho : 0 ≤ o ∧ o ≤ 6) (hv : 0 ≤ v ∧ v ≤ 6) : zSp d 0 0 y_Ru_depthNow zT0 [vr 324, vr 1, vi o, vi v] μ zT0 (fun r μ' => r = some (vi (dnA Z F A w o v)) ∧ CF w μ μ') := by
  have hd1 := h.d
  refine zSp.ss [vr 324, vr 1, vi o, vi v, vx 0] rfl (w_Ru_depthNow (Nat.le_trans (by decide) hd)) rfl rfl ?_
  (try simp only [zit_e, Bool.and_eq_true, Bool.or_eq_true, Bool.not_eq_true', Bool.and_eq_false_iff, Bool.or_eq_false_iff, Bool.not_eq_false', zbe, zdt, zdf, zb2_p, zbp_0, zbp_1, zbp_inj, zbp_01, Bool.true_eq_false, Bool.false_eq_true, true_and, and_true, Decidable.not_not, Classical.not_not, implies_true, List.nil_append, List.cons_append, List.append_assoc, Option.some.injEq, Sum.inl.injEq, zSw_c, zSw_n]); (try simp only [zit_e, Bool.and_eq_true, Bool.or_eq_true, Bool.not_eq_true', Bool.and_eq_false_iff, Bool.or_eq_false_iff, Bool.not_eq_false', zbe, zdt, zdf, zb2_p, zbp_0, zbp_1, zbp_inj, zbp_01, Bool.true_eq_false, Bool.false_eq_true, true_and, and_true, Decidable.not_not, Classical.not_not, implies_true, List.nil_append, List.cons_append, List.append_assoc, Option.some.injEq, Sum.inl.injEq, zSw_c, zSw_n, zc_324, zc_1, zc_2, f_Le_owed, g_Le_owed]); (try simp only [zi_cs, zi_c0, zii_cs, zii_c0, zl_cs, zl_c0, zll_cs, zll_c0, zr_cs, zr_c0, zrr_cs, zrr_c0, zxs_cs, zxs_c0, zxx_cs, zxx_c0, zfree_c0, zfree_c1, zfree_cs, zfree_cz, zlong_i, zlong_r, zlong_x, zset_0, zset_s, true_and, and_true, Option.some.injEq, Sum.inl.injEq, Sum.inr.injEq, zb2_p, zbp_0, zbp_1, zbp_inj, zbp_01, Nat.zero_add, Nat.reduceAdd, implies_true, List.nil_append, List.cons_append, List.append_assoc, Int.not_lt, Int.not_le, Decidable.not_not, Int.zero_add, Int.reduceLE, Int.reduceLT, Int.reduceEq, Int.reduceNe, Int.reduceAdd, Int.reduceSub, Int.reduceMul, Int.reduceNeg, Int.reduceToNat, Nat.reduceMul, Nat.reduceLT, Nat.reduceEqDiff, and_self, ite_true, ite_false, zx1, zx2, zRecv, List.length_cons, List.length_nil, ne_eq, not_true_eq_false, not_false_eq_true, true_or, or_true, or_false, false_or, and_false, false_and, zf01, zf10, reduceCtorEq, zSw_c, zSw_n, zm_r, zit_T, zit_F, false_implies, true_implies, zc_324, zc_1, zc_2, f_Le_owed, g_Le_owed])
  rw [hd1.1]
  refine ⟨hd1.2.2.2.1, ?_⟩
  have b1 := owA (a := o) (b := v) h.2.1
  have b2 := owA (a := v) (b := o) h.2.1
  refine zCw.use (q_C_depth (d := 6) (by decide) h ho hv (by omega) (by omega)) (by omega) (fun q μ1 e => ?_)
  exact ⟨_, e.1, rfl, e.2⟩
theorem q_R_deepNow {d : Nat} (hd : 49 ≤ d) {μ : zMem} {Z : Zt} {F : Option (List Cls)} {A : Lg} {w : Int → Int} {o v : Int} (h : MTx μ Z F A w) (ho : 0 ≤ o ∧ o ≤ 6) (hv : 0 ≤ v ∧ v ≤ 6) : zSp d 0 0 y_M_deepNow zT0 [vr 355, vi o, vi v] μ zT0 (fun r μ' => r = some (vi (dnA Z F A w o v)) ∧ MF μ μ') := by
  have hd1 := h.d
  refine zSp.ss [vr 355, vi o, vi v] rfl (w_M_deepNow (Nat.le_trans (by decide) hd)) rfl rfl ?_
  (try simp only [zit_e, Bool.and_eq_true, Bool.or_eq_true, Bool.not_eq_true', Bool.and_eq_false_iff, Bool.or_eq_false_iff, Bool.not_eq_false', zbe, zdt, zdf, zb2_p, zbp_0, zbp_1, zbp_inj, zbp_01, Bool.true_eq_false, Bool.false_eq_true, true_and, and_true, Decidable.not_not, Classical.not_not, implies_true, List.nil_append, List.cons_append, List.append_assoc, Option.some.injEq, Sum.inl.injEq, zSw_c, zSw_n]); (try simp only [zit_e, Bool.and_eq_true, Bool.or_eq_true, Bool.not_eq_true', Bool.and_eq_false_iff, Bool.or_eq_false_iff, Bool.not_eq_false', zbe, zdt, zdf, zb2_p, zbp_0, zbp_1, zbp_inj, zbp_01, Bool.true_eq_false, Bool.false_eq_true, true_and, and_true, Decidable.not_not, Classical.not_not, implies_true, List.nil_append, List.cons_append, List.append_assoc, Option.some.injEq, Sum.inl.injEq, zSw_c, zSw_n, zc_355, f_M_owed, g_M_owed]); (try simp only [zi_cs, zi_c0, zii_cs, zii_c0, zl_cs, zl_c0, zll_cs, zll_c0, zr_cs, zr_c0, zrr_cs, zrr_c0, zxs_cs, zxs_c0, zxx_cs, zxx_c0, zfree_c0, zfree_c1, zfree_cs, zfree_cz, zlong_i, zlong_r, zlong_x, zset_0, zset_s, true_and, and_true, Option.some.injEq, Sum.inl.injEq, Sum.inr.injEq, zb2_p, zbp_0, zbp_1, zbp_inj, zbp_01, Nat.zero_add, Nat.reduceAdd, implies_true, List.nil_append, List.cons_append, List.append_assoc, Int.not_lt, Int.not_le, Decidable.not_not, Int.zero_add, Int.reduceLE, Int.reduceLT, Int.reduceEq, Int.reduceNe, Int.reduceAdd, Int.reduceSub, Int.reduceMul, Int.reduceNeg, Int.reduceToNat, Nat.reduceMul, Nat.reduceLT, Nat.reduceEqDiff, and_self, ite_true, ite_false, zx1, zx2, zRecv, List.length_cons, List.length_nil, ne_eq, not_true_eq_false, not_false_eq_true, true_or, or_true, or_false, false_or, and_false, false_and, zf01, zf10, reduceCtorEq, zSw_c, zSw_n, zm_r, zit_T, zit_F, false_implies, true_implies, zc_355, f_M_owed, g_M_owed])
  rw [hd1.1]
  refine ⟨hd1.2.2.2.1, ?_⟩
  have b1 := owA (a := o) (b := v) h.2.1
  have b2 := owA (a := v) (b := o) h.2.1
  refine zCw.use (q_R_deepBy (d := 48) (by decide) h ho hv (by omega) (by omega)) (by omega) (fun q μ1 e => ?_)
  exact ⟨_, e.1, rfl, e.2⟩
theorem LC_deep {o v : Int} : LC y_D_deep y_M_deep [vi o, vi v] := LC.tl (f := fun Z F A w => zit (o ≠ v ∧ (0 ≤ o ∧ o < Z.1) ∧ 0 ≤ v ∧ v < Z.1) (dnA Z F A w o v) (-1)) (fun μ Z F A w h => by
    have hn := h.1.1
    have e6 := h.2.2.1.1
    refine zCw.use (zSp.ss [vr 0, vi o, vi v] rfl (w_D_deep (d := 100) (by decide)) rfl rfl ?_) (by decide) (fun q μ' e => e)
    (try simp only [zit_e, Bool.and_eq_true, Bool.or_eq_true, Bool.not_eq_true', Bool.and_eq_false_iff, Bool.or_eq_false_iff, Bool.not_eq_false', zbe, zdt, zdf, zb2_p, zbp_0, zbp_1, zbp_inj, zbp_01, Bool.true_eq_false, Bool.false_eq_true, true_and, and_true, Decidable.not_not, Classical.not_not, implies_true, List.nil_append, List.cons_append, List.append_assoc, Option.some.injEq, Sum.inl.injEq, zSw_c, zSw_n]); (try simp only [zit_e, Bool.and_eq_true, Bool.or_eq_true, Bool.not_eq_true', Bool.and_eq_false_iff, Bool.or_eq_false_iff, Bool.not_eq_false', zbe, zdt, zdf, zb2_p, zbp_0, zbp_1, zbp_inj, zbp_01, Bool.true_eq_false, Bool.false_eq_true, true_and, and_true, Decidable.not_not, Classical.not_not, implies_true, List.nil_append, List.cons_append, List.append_assoc, Option.some.injEq, Sum.inl.injEq, zSw_c, zSw_n, zc_0, zc_1, zc_324, f_To_hasPair, g_To_hasPair]); (try simp only [zi_cs, zi_c0, zii_cs, zii_c0, zl_cs, zl_c0, zll_cs, zll_c0, zr_cs, zr_c0, zrr_cs, zrr_c0, zxs_cs, zxs_c0, zxx_cs, zxx_c0, zfree_c0, zfree_c1, zfree_cs, zfree_cz, zlong_i, zlong_r, zlong_x, zset_0, zset_s, true_and, and_true, Option.some.injEq, Sum.inl.injEq, Sum.inr.injEq, zb2_p, zbp_0, zbp_1, zbp_inj, zbp_01, Nat.zero_add, Nat.reduceAdd, implies_true, List.nil_append, List.cons_append, List.append_assoc, Int.not_lt, Int.not_le, Decidable.not_not, Int.zero_add, Int.reduceLE, Int.reduceLT, Int.reduceEq, Int.reduceNe, Int.reduceAdd, Int.reduceSub, Int.reduceMul, Int.reduceNeg, Int.reduceToNat, Nat.reduceMul, Nat.reduceLT, Nat.reduceEqDiff, and_self, ite_true, ite_false, zx1, zx2, zRecv, List.length_cons, List.length_nil, ne_eq, not_true_eq_false, not_false_eq_true, true_or, or_true, or_false, false_or, and_false, false_and, zf01, zf10, reduceCtorEq, zSw_c, zSw_n, zm_r, zit_T, zit_F, false_implies, true_implies, zc_0, zc_1, zc_324, f_To_hasPair, g_To_hasPair])
    rw [e6]
    refine zif (fun c => ?_) (fun c => ?_)
    · skip
      refine zCw.use (q_C_depthNow (d := 7) (by decide) h (by omega) (by omega)) (by omega) (fun q μ1 e => ?_)
      exact ⟨_, e.1, (zit_t c).symm, e.2.hm, e.2.kc⟩
    · exact ⟨(zit_f c).symm, HM.rf, KC.rf⟩) (fun μ Z F A w h => by
    have hn := h.1.1
    have e6 := h.2.2.1.1
    refine zCw.use (zSp.ss [vr 355, vi o, vi v] rfl (w_M_deep (d := 100) (by decide)) rfl rfl ?_) (by decide) (fun q μ' e => e)
    (try simp only [zit_e, Bool.and_eq_true, Bool.or_eq_true, Bool.not_eq_true', Bool.and_eq_false_iff, Bool.or_eq_false_iff, Bool.not_eq_false', zbe, zdt, zdf, zb2_p, zbp_0, zbp_1, zbp_inj, zbp_01, Bool.true_eq_false, Bool.false_eq_true, true_and, and_true, Decidable.not_not, Classical.not_not, implies_true, List.nil_append, List.cons_append, List.append_assoc, Option.some.injEq, Sum.inl.injEq, zSw_c, zSw_n]); (try simp only [zit_e, Bool.and_eq_true, Bool.or_eq_true, Bool.not_eq_true', Bool.and_eq_false_iff, Bool.or_eq_false_iff, Bool.not_eq_false', zbe, zdt, zdf, zb2_p, zbp_0, zbp_1, zbp_inj, zbp_01, Bool.true_eq_false, Bool.false_eq_true, true_and, and_true, Decidable.not_not, Classical.not_not, implies_true, List.nil_append, List.cons_append, List.append_assoc, Option.some.injEq, Sum.inl.injEq, zSw_c, zSw_n, zc_355, f_M_areTwo, g_M_areTwo]); (try simp only [zi_cs, zi_c0, zii_cs, zii_c0, zl_cs, zl_c0, zll_cs, zll_c0, zr_cs, zr_c0, zrr_cs, zrr_c0, zxs_cs, zxs_c0, zxx_cs, zxx_c0, zfree_c0, zfree_c1, zfree_cs, zfree_cz, zlong_i, zlong_r, zlong_x, zset_0, zset_s, true_and, and_true, Option.some.injEq, Sum.inl.injEq, Sum.inr.injEq, zb2_p, zbp_0, zbp_1, zbp_inj, zbp_01, Nat.zero_add, Nat.reduceAdd, implies_true, List.nil_append, List.cons_append, List.append_assoc, Int.not_lt, Int.not_le, Decidable.not_not, Int.zero_add, Int.reduceLE, Int.reduceLT, Int.reduceEq, Int.reduceNe, Int.reduceAdd, Int.reduceSub, Int.reduceMul, Int.reduceNeg, Int.reduceToNat, Nat.reduceMul, Nat.reduceLT, Nat.reduceEqDiff, and_self, ite_true, ite_false, zx1, zx2, zRecv, List.length_cons, List.length_nil, ne_eq, not_true_eq_false, not_false_eq_true, true_or, or_true, or_false, false_or, and_false, false_and, zf01, zf10, reduceCtorEq, zSw_c, zSw_n, zm_r, zit_T, zit_F, false_implies, true_implies, zc_355, f_M_areTwo, g_M_areTwo])
    rw [e6]
    refine ⟨by omega, ?_⟩
    refine zif (fun c => ?_) (fun c => ?_)
    · refine zCw.use (q_R_deepNow (d := 49) (by decide) h (by omega) (by omega)) (by omega) (fun q μ1 e => ?_)
      exact ⟨_, e.1, (zit_t (by omega)).symm, e.2.hc, e.2.km⟩
    · exact ⟨(zit_f (by omega)).symm, HC.rf, KM.rf⟩)

