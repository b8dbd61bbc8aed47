/-! the reader's tests: what stands between "and" -/
theorem Seg_d {p p' : Int → Int} {w : Nat} {c : List Int} (h : Seg p w c) (hc : ∀ i : Int, w ≤ i → i < (w + c.length : Nat) → p' i = p i) : Seg p' w c := fun i hi => by
  rw [hc _ (by omega) (by omega)]
  exact h i hi
theorem jh_w {d : Nat} (hd : 2 ≤ d) {B : Int → Int} {n : Nat} {o : Bool} {t l w : Nat} {μ : zMem} {j p : Int} {K : zRo} (h : PSt B n o t l w μ) (ho : 0 ≤ p ∧ p < 14) (hj : 0 ≤ j ∧ j < 385) (hw : w < 4096) (hk : ∀ μ', PSt B n o t l w μ' → FR μ μ' → μ' 323 j = p * 4096 + w → (∀ i : Int, i ≠ j → μ' 323 i = μ 323 i) → K none μ') : zCw d y_Re_jumpHere [vr 321, vi j, vi p] μ K :=
  zCw.use (q_Re_jumpHere (d := 1) (by decide) ho hj (by rw [h.2.2.1]; omega)) hd (fun q μ' e => by
    obtain ⟨rfl, rfl⟩ := e
    rw [h.2.2.1]
    refine hk _ ⟨RD_c h.1 (zm_off 322 (by decide)) (fun j hj => ?_), ?_, ?_, ?_⟩ ⟨zfc.rf.zm (by decide), ?_, ?_⟩ zm_s (fun i hi => zm_j hi)
    · rw [zm_off 321 (by decide)]
    · rw [zm_off 321 (by decide)]
      exact h.2.1
    · rw [zm_off 321 (by decide)]
      exact h.2.2.1
    · rw [zm_off 321 (by decide)]
      exact h.2.2.2
    · rw [zm_off 321 (by decide)]
    · rw [zm_off 321 (by decide)])
def y_Re_plain : zMt := (⟨"DebtDoors$Reader", "plain", "(I)Z"⟩, prog_8_method_21_code, 4, some .boolean)
theorem m_Re_plain : Cond.instanceMethod y_Re_plain.1 ∈ zTb ∧ Cond.selects y_Re_plain.1.cls y_Re_plain.1 y_Re_plain.1 ∈ zTb ∧ Cond.initialized y_Re_plain.1.cls ∈ zTb ∧ Cond.code y_Re_plain.1 y_Re_plain.2.1 y_Re_plain.2.2.1 y_Re_plain.2.2.2 ∈ zTb ∧ (y_Re_plain.1.cls ≠ "java/lang/invoke/MethodHandle" ∧ y_Re_plain.1.cls ≠ "java/lang/invoke/VarHandle" ∧ (parseMethodDescriptor y_Re_plain.1.desc).map (fun d => d.parameters.length) = some 1) ∧ y_Re_plain.2.2.1 ≤ 20 :=
  ⟨(zTb_in 886 (by decide +kernel) (by decide +kernel)), (List.mem_filter.mpr ⟨List.mem_append_left _ (by decide +kernel), by decide +kernel⟩), (zTb_in 143 (by decide +kernel) (by decide +kernel)), (zTb_in 887 (by decide +kernel) (by decide +kernel)), by decide +kernel, by decide +kernel⟩
theorem lv_Re_139 : zLv "DebtDoors$Reader" 139 y_Re_plain 1 6 := ⟨⟨(zTb_in 884 (by decide +kernel) (by decide +kernel)), m_Re_plain.1, m_Re_plain.2.1, m_Re_plain.2.2⟩, _, rfl, rfl⟩
theorem m_Re_jumpHere : Cond.instanceMethod y_Re_jumpHere.1 ∈ zTb ∧ Cond.selects y_Re_jumpHere.1.cls y_Re_jumpHere.1 y_Re_jumpHere.1 ∈ zTb ∧ Cond.initialized y_Re_jumpHere.1.cls ∈ zTb ∧ Cond.code y_Re_jumpHere.1 y_Re_jumpHere.2.1 y_Re_jumpHere.2.2.1 y_Re_jumpHere.2.2.2 ∈ zTb ∧ (y_Re_jumpHere.1.cls ≠ "java/lang/invoke/MethodHandle" ∧ y_Re_jumpHere.1.cls ≠ "java/lang/invoke/VarHandle" ∧ (parseMethodDescriptor y_Re_jumpHere.1.desc).map (fun d => d.parameters.length) = some 2) ∧ y_Re_jumpHere.2.2.1 ≤ 20 :=
  ⟨(zTb_in 892 (by decide +kernel) (by decide +kernel)), (List.mem_filter.mpr ⟨List.mem_append_left _ (by decide +kernel), by decide +kernel⟩), (zTb_in 143 (by decide +kernel) (by decide +kernel)), (zTb_in 893 (by decide +kernel) (by decide +kernel)), by decide +kernel, by decide +kernel⟩
theorem lv_Re_136 : zLv "DebtDoors$Reader" 136 y_Re_jumpHere 2 6 := ⟨⟨(zTb_in 890 (by decide +kernel) (by decide +kernel)), m_Re_jumpHere.1, m_Re_jumpHere.2.1, m_Re_jumpHere.2.2⟩, _, rfl, rfl⟩
def y_Re_both : zMt := (⟨"DebtDoors$Reader", "both", "(I)Z"⟩, prog_8_method_19_code, 4, some .boolean)
theorem d_Re_both_0 : decode prog_8_method_19_code 0 = .ok (.aload_n 0, 1) := by decide +kernel
theorem d_Re_both_1 : decode prog_8_method_19_code 1 = .ok (.iload_n 1, 1) := by decide +kernel
theorem d_Re_both_2 : decode prog_8_method_19_code 2 = .ok (.invokevirtual 139, 3) := by decide +kernel
theorem d_Re_both_5 : decode prog_8_method_19_code 5 = .ok (.ifCond .ne 5, 3) := by decide +kernel
theorem d_Re_both_8 : decode prog_8_method_19_code 8 = .ok (.iconst 0, 1) := by decide +kernel
theorem d_Re_both_9 : decode prog_8_method_19_code 9 = .ok (.ireturn, 1) := by decide +kernel
theorem d_Re_both_10 : decode prog_8_method_19_code 10 = .ok (.iconst 0, 1) := by decide +kernel
theorem d_Re_both_11 : decode prog_8_method_19_code 11 = .ok (.istore_n 2, 1) := by decide +kernel
theorem d_Re_both_12 : decode prog_8_method_19_code 12 = .ok (.iload_n 2, 1) := by decide +kernel
theorem d_Re_both_13 : decode prog_8_method_19_code 13 = .ok (.sipush 400, 3) := by decide +kernel
theorem d_Re_both_16 : decode prog_8_method_19_code 16 = .ok (.if_icmp .ge 49, 3) := by decide +kernel
theorem d_Re_both_19 : decode prog_8_method_19_code 19 = .ok (.aload_n 0, 1) := by decide +kernel
theorem d_Re_both_20 : decode prog_8_method_19_code 20 = .ok (.ldc 142, 2) := by decide +kernel
theorem d_Re_both_22 : decode prog_8_method_19_code 22 = .ok (.invokevirtual 83, 3) := by decide +kernel
theorem d_Re_both_25 : decode prog_8_method_19_code 25 = .ok (.ifCond .eq 40, 3) := by decide +kernel
theorem d_Re_both_28 : decode prog_8_method_19_code 28 = .ok (.aload_n 0, 1) := by decide +kernel
theorem d_Re_both_29 : decode prog_8_method_19_code 29 = .ok (.invokevirtual 38, 3) := by decide +kernel
theorem d_Re_both_32 : decode prog_8_method_19_code 32 = .ok (.aload_n 0, 1) := by decide +kernel
theorem d_Re_both_33 : decode prog_8_method_19_code 33 = .ok (.getfield 29, 3) := by decide +kernel
theorem d_Re_both_36 : decode prog_8_method_19_code 36 = .ok (.istore_n 3, 1) := by decide +kernel
theorem d_Re_both_37 : decode prog_8_method_19_code 37 = .ok (.aload_n 0, 1) := by decide +kernel
theorem d_Re_both_38 : decode prog_8_method_19_code 38 = .ok (.iconst 4, 1) := by decide +kernel
theorem d_Re_both_39 : decode prog_8_method_19_code 39 = .ok (.iconst 0, 1) := by decide +kernel
theorem d_Re_both_40 : decode prog_8_method_19_code 40 = .ok (.invokevirtual 132, 3) := by decide +kernel
theorem d_Re_both_43 : decode prog_8_method_19_code 43 = .ok (.aload_n 0, 1) := by decide +kernel
theorem d_Re_both_44 : decode prog_8_method_19_code 44 = .ok (.iload_n 1, 1) := by decide +kernel
theorem d_Re_both_45 : decode prog_8_method_19_code 45 = .ok (.invokevirtual 139, 3) := by decide +kernel
theorem d_Re_both_48 : decode prog_8_method_19_code 48 = .ok (.ifCond .ne 5, 3) := by decide +kernel
theorem d_Re_both_51 : decode prog_8_method_19_code 51 = .ok (.iconst 0, 1) := by decide +kernel
theorem d_Re_both_52 : decode prog_8_method_19_code 52 = .ok (.ireturn, 1) := by decide +kernel
theorem d_Re_both_53 : decode prog_8_method_19_code 53 = .ok (.aload_n 0, 1) := by decide +kernel
theorem d_Re_both_54 : decode prog_8_method_19_code 54 = .ok (.iload_n 3, 1) := by decide +kernel
theorem d_Re_both_55 : decode prog_8_method_19_code 55 = .ok (.iconst 4, 1) := by decide +kernel
theorem d_Re_both_56 : decode prog_8_method_19_code 56 = .ok (.invokevirtual 136, 3) := by decide +kernel
theorem d_Re_both_59 : decode prog_8_method_19_code 59 = .ok (.iinc 2 1, 3) := by decide +kernel
theorem d_Re_both_62 : decode prog_8_method_19_code 62 = .ok (.goto (-50), 3) := by decide +kernel
theorem d_Re_both_65 : decode prog_8_method_19_code 65 = .ok (.iconst 1, 1) := by decide +kernel
theorem d_Re_both_66 : decode prog_8_method_19_code 66 = .ok (.ireturn, 1) := by decide +kernel
def w_Re_both {d : Nat} (hd : 10 ≤ d) := (show SS ("DebtDoors$Reader", prog_8_method_19_code, 4) (some .boolean) d 0 0 0 0 _ from (sS (p1 := 10) (sIf (pn := 10) (tt := 8) (xNot (xJ1 (tgt := 10) k_ne (xV lv_Re_139 (xA (rAi (rAr rA0 (rAn 0 d_Re_both_0 rfl)) (rIn 1 d_Re_both_1 rfl))) (by decide) d_Re_both_2) d_Re_both_5 (by decide))) (sRz (xE (rI d_Re_both_8 rfl)) d_Re_both_9 rfl)) (sS (p1 := 65) (sS (p1 := 12) (sIn 2 (xE (rI d_Re_both_10 rfl)) d_Re_both_11 rfl (by decide)) (sLp (ps := 59) (tt := 28) (pn := 65) (p1 := 0) (p2 := 0) (xC (rAnd (mm := 19) (rNot (rJ2 (tgt := 65) j_ge (rIn 2 d_Re_both_12 rfl) (rSi d_Re_both_13 rfl) d_Re_both_16 (by decide))) (rNot (rJ1 (tgt := 65) k_eq (rV p_Re_isWord (Nat.le_trans (Nat.le_of_ble_eq_true rfl) hd) lv_Re_83 (rAs (rAr rA0 (rAn 0 d_Re_both_19 rfl)) (rTx (i := 7) (by decide) rfl rfl d_Re_both_20)) (by decide) d_Re_both_22) d_Re_both_25 (by decide))))) (sS (p1 := 32) (sV (xVv lv_Re_38 (xA (rAr rA0 (rAn 0 d_Re_both_28 rfl))) (by decide) d_Re_both_29)) (sS (p1 := 37) (sIn 3 (xE (rF 5 fl_Re_29 nk_6_5 (rAn 0 d_Re_both_32 rfl) d_Re_both_33 rfl)) d_Re_both_36 rfl (by decide)) (sS (p1 := 43) (sV (xVv lv_Re_132 (xA (rAi (rAi (rAr rA0 (rAn 0 d_Re_both_37 rfl)) (rI d_Re_both_38 rfl)) (rI d_Re_both_39 rfl))) (by decide) d_Re_both_40)) (sS (p1 := 53) (sIf (pn := 53) (tt := 51) (xNot (xJ1 (tgt := 53) k_ne (xV lv_Re_139 (xA (rAi (rAr rA0 (rAn 0 d_Re_both_43 rfl)) (rIn 1 d_Re_both_44 rfl))) (by decide) d_Re_both_45) d_Re_both_48 (by decide))) (sRz (xE (rI d_Re_both_51 rfl)) d_Re_both_52 rfl)) (sV (xVv lv_Re_136 (xA (rAi (rAi (rAr rA0 (rAn 0 d_Re_both_53 rfl)) (rIn 3 d_Re_both_54 rfl)) (rI d_Re_both_55 rfl))) (by decide) d_Re_both_56)))))) (sGo (pn := 12) (sInc d_Re_both_59 (by decide)) d_Re_both_62 (by decide)))) (sRz (xE (rI d_Re_both_65 rfl)) d_Re_both_66 rfl))))
theorem m_Re_both : Cond.instanceMethod y_Re_both.1 ∈ zTb ∧ Cond.selects y_Re_both.1.cls y_Re_both.1 y_Re_both.1 ∈ zTb ∧ Cond.initialized y_Re_both.1.cls ∈ zTb ∧ Cond.code y_Re_both.1 y_Re_both.2.1 y_Re_both.2.2.1 y_Re_both.2.2.2 ∈ zTb ∧ (y_Re_both.1.cls ≠ "java/lang/invoke/MethodHandle" ∧ y_Re_both.1.cls ≠ "java/lang/invoke/VarHandle" ∧ (parseMethodDescriptor y_Re_both.1.desc).map (fun d => d.parameters.length) = some 1) ∧ y_Re_both.2.2.1 ≤ 20 :=
  ⟨(zTb_in 882 (by decide +kernel) (by decide +kernel)), (List.mem_filter.mpr ⟨List.mem_append_left _ (by decide +kernel), by decide +kernel⟩), (zTb_in 143 (by decide +kernel) (by decide +kernel)), (zTb_in 883 (by decide +kernel) (by decide +kernel)), by decide +kernel, by decide +kernel⟩
theorem lv_Re_127 : zLv "DebtDoors$Reader" 127 y_Re_both 1 6 := ⟨⟨(zTb_in 880 (by decide +kernel) (by decide +kernel)), m_Re_both.1, m_Re_both.2.1, m_Re_both.2.2⟩, _, rfl, rfl⟩
def y_Re_test : zMt := (⟨"DebtDoors$Reader", "test", "(I)Z"⟩, prog_8_method_18_code, 4, some .boolean)
theorem d_Re_test_0 : decode prog_8_method_18_code 0 = .ok (.aload_n 0, 1) := by decide +kernel
theorem d_Re_test_1 : decode prog_8_method_18_code 1 = .ok (.iload_n 1, 1) := by decide +kernel
theorem d_Re_test_2 : decode prog_8_method_18_code 2 = .ok (.invokevirtual 127, 3) := by decide +kernel
theorem d_Re_test_5 : decode prog_8_method_18_code 5 = .ok (.ifCond .ne 5, 3) := by decide +kernel
theorem d_Re_test_8 : decode prog_8_method_18_code 8 = .ok (.iconst 0, 1) := by decide +kernel
theorem d_Re_test_9 : decode prog_8_method_18_code 9 = .ok (.ireturn, 1) := by decide +kernel
theorem d_Re_test_10 : decode prog_8_method_18_code 10 = .ok (.iconst 0, 1) := by decide +kernel
theorem d_Re_test_11 : decode prog_8_method_18_code 11 = .ok (.istore_n 2, 1) := by decide +kernel
theorem d_Re_test_12 : decode prog_8_method_18_code 12 = .ok (.iload_n 2, 1) := by decide +kernel
theorem d_Re_test_13 : decode prog_8_method_18_code 13 = .ok (.sipush 400, 3) := by decide +kernel
theorem d_Re_test_16 : decode prog_8_method_18_code 16 = .ok (.if_icmp .ge 49, 3) := by decide +kernel
theorem d_Re_test_19 : decode prog_8_method_18_code 19 = .ok (.aload_n 0, 1) := by decide +kernel
theorem d_Re_test_20 : decode prog_8_method_18_code 20 = .ok (.ldc 130, 2) := by decide +kernel
theorem d_Re_test_22 : decode prog_8_method_18_code 22 = .ok (.invokevirtual 83, 3) := by decide +kernel
theorem d_Re_test_25 : decode prog_8_method_18_code 25 = .ok (.ifCond .eq 40, 3) := by decide +kernel
theorem d_Re_test_28 : decode prog_8_method_18_code 28 = .ok (.aload_n 0, 1) := by decide +kernel
theorem d_Re_test_29 : decode prog_8_method_18_code 29 = .ok (.invokevirtual 38, 3) := by decide +kernel
theorem d_Re_test_32 : decode prog_8_method_18_code 32 = .ok (.aload_n 0, 1) := by decide +kernel
theorem d_Re_test_33 : decode prog_8_method_18_code 33 = .ok (.getfield 29, 3) := by decide +kernel
theorem d_Re_test_36 : decode prog_8_method_18_code 36 = .ok (.istore_n 3, 1) := by decide +kernel
theorem d_Re_test_37 : decode prog_8_method_18_code 37 = .ok (.aload_n 0, 1) := by decide +kernel
theorem d_Re_test_38 : decode prog_8_method_18_code 38 = .ok (.iconst 5, 1) := by decide +kernel
theorem d_Re_test_39 : decode prog_8_method_18_code 39 = .ok (.iconst 0, 1) := by decide +kernel
theorem d_Re_test_40 : decode prog_8_method_18_code 40 = .ok (.invokevirtual 132, 3) := by decide +kernel
theorem d_Re_test_43 : decode prog_8_method_18_code 43 = .ok (.aload_n 0, 1) := by decide +kernel
theorem d_Re_test_44 : decode prog_8_method_18_code 44 = .ok (.iload_n 1, 1) := by decide +kernel
theorem d_Re_test_45 : decode prog_8_method_18_code 45 = .ok (.invokevirtual 127, 3) := by decide +kernel
theorem d_Re_test_48 : decode prog_8_method_18_code 48 = .ok (.ifCond .ne 5, 3) := by decide +kernel
theorem d_Re_test_51 : decode prog_8_method_18_code 51 = .ok (.iconst 0, 1) := by decide +kernel
theorem d_Re_test_52 : decode prog_8_method_18_code 52 = .ok (.ireturn, 1) := by decide +kernel
theorem d_Re_test_53 : decode prog_8_method_18_code 53 = .ok (.aload_n 0, 1) := by decide +kernel
theorem d_Re_test_54 : decode prog_8_method_18_code 54 = .ok (.iload_n 3, 1) := by decide +kernel
theorem d_Re_test_55 : decode prog_8_method_18_code 55 = .ok (.iconst 5, 1) := by decide +kernel
theorem d_Re_test_56 : decode prog_8_method_18_code 56 = .ok (.invokevirtual 136, 3) := by decide +kernel
theorem d_Re_test_59 : decode prog_8_method_18_code 59 = .ok (.iinc 2 1, 3) := by decide +kernel
theorem d_Re_test_62 : decode prog_8_method_18_code 62 = .ok (.goto (-50), 3) := by decide +kernel
theorem d_Re_test_65 : decode prog_8_method_18_code 65 = .ok (.iconst 1, 1) := by decide +kernel
theorem d_Re_test_66 : decode prog_8_method_18_code 66 = .ok (.ireturn, 1) := by decide +kernel
def w_Re_test {d : Nat} (hd : 10 ≤ d) := (show SS ("DebtDoors$Reader", prog_8_method_18_code, 4) (some .boolean) d 0 0 0 0 _ from (sS (p1 := 10) (sIf (pn := 10) (tt := 8) (xNot (xJ1 (tgt := 10) k_ne (xV lv_Re_127 (xA (rAi (rAr rA0 (rAn 0 d_Re_test_0 rfl)) (rIn 1 d_Re_test_1 rfl))) (by decide) d_Re_test_2) d_Re_test_5 (by decide))) (sRz (xE (rI d_Re_test_8 rfl)) d_Re_test_9 rfl)) (sS (p1 := 65) (sS (p1 := 12) (sIn 2 (xE (rI d_Re_test_10 rfl)) d_Re_test_11 rfl (by decide)) (sLp (ps := 59) (tt := 28) (pn := 65) (p1 := 0) (p2 := 0) (xC (rAnd (mm := 19) (rNot (rJ2 (tgt := 65) j_ge (rIn 2 d_Re_test_12 rfl) (rSi d_Re_test_13 rfl) d_Re_test_16 (by decide))) (rNot (rJ1 (tgt := 65) k_eq (rV p_Re_isWord (Nat.le_trans (Nat.le_of_ble_eq_true rfl) hd) lv_Re_83 (rAs (rAr rA0 (rAn 0 d_Re_test_19 rfl)) (rTx (i := 6) (by decide) rfl rfl d_Re_test_20)) (by decide) d_Re_test_22) d_Re_test_25 (by decide))))) (sS (p1 := 32) (sV (xVv lv_Re_38 (xA (rAr rA0 (rAn 0 d_Re_test_28 rfl))) (by decide) d_Re_test_29)) (sS (p1 := 37) (sIn 3 (xE (rF 5 fl_Re_29 nk_6_5 (rAn 0 d_Re_test_32 rfl) d_Re_test_33 rfl)) d_Re_test_36 rfl (by decide)) (sS (p1 := 43) (sV (xVv lv_Re_132 (xA (rAi (rAi (rAr rA0 (rAn 0 d_Re_test_37 rfl)) (rI d_Re_test_38 rfl)) (rI d_Re_test_39 rfl))) (by decide) d_Re_test_40)) (sS (p1 := 53) (sIf (pn := 53) (tt := 51) (xNot (xJ1 (tgt := 53) k_ne (xV lv_Re_127 (xA (rAi (rAr rA0 (rAn 0 d_Re_test_43 rfl)) (rIn 1 d_Re_test_44 rfl))) (by decide) d_Re_test_45) d_Re_test_48 (by decide))) (sRz (xE (rI d_Re_test_51 rfl)) d_Re_test_52 rfl)) (sV (xVv lv_Re_136 (xA (rAi (rAi (rAr rA0 (rAn 0 d_Re_test_53 rfl)) (rIn 3 d_Re_test_54 rfl)) (rI d_Re_test_55 rfl))) (by decide) d_Re_test_56)))))) (sGo (pn := 12) (sInc d_Re_test_59 (by decide)) d_Re_test_62 (by decide)))) (sRz (xE (rI d_Re_test_65 rfl)) d_Re_test_66 rfl))))
theorem m_Re_test : Cond.instanceMethod y_Re_test.1 ∈ zTb ∧ Cond.selects y_Re_test.1.cls y_Re_test.1 y_Re_test.1 ∈ zTb ∧ Cond.initialized y_Re_test.1.cls ∈ zTb ∧ Cond.code y_Re_test.1 y_Re_test.2.1 y_Re_test.2.2.1 y_Re_test.2.2.2 ∈ zTb ∧ (y_Re_test.1.cls ≠ "java/lang/invoke/MethodHandle" ∧ y_Re_test.1.cls ≠ "java/lang/invoke/VarHandle" ∧ (parseMethodDescriptor y_Re_test.1.desc).map (fun d => d.parameters.length) = some 1) ∧ y_Re_test.2.2.1 ≤ 20 :=
  ⟨(zTb_in 878 (by decide +kernel) (by decide +kernel)), (List.mem_filter.mpr ⟨List.mem_append_left _ (by decide +kernel), by decide +kernel⟩), (zTb_in 143 (by decide +kernel) (by decide +kernel)), (zTb_in 879 (by decide +kernel) (by decide +kernel)), by decide +kernel, by decide +kernel⟩
theorem lv_Re_124 : zLv "DebtDoors$Reader" 124 y_Re_test 1 6 := ⟨⟨(zTb_in 876 (by decide +kernel) (by decide +kernel)), m_Re_test.1, m_Re_test.2.1, m_Re_test.2.2⟩, _, rfl, rfl⟩
theorem d_Re_plain_0 : decode prog_8_method_21_code 0 = .ok (.iconst 0, 1) := by decide +kernel
theorem d_Re_plain_1 : decode prog_8_method_21_code 1 = .ok (.istore_n 2, 1) := by decide +kernel
theorem d_Re_plain_2 : decode prog_8_method_21_code 2 = .ok (.iconst 0, 1) := by decide +kernel
theorem d_Re_plain_3 : decode prog_8_method_21_code 3 = .ok (.istore_n 3, 1) := by decide +kernel
theorem d_Re_plain_4 : decode prog_8_method_21_code 4 = .ok (.iload_n 3, 1) := by decide +kernel
theorem d_Re_plain_5 : decode prog_8_method_21_code 5 = .ok (.sipush 400, 3) := by decide +kernel
theorem d_Re_plain_8 : decode prog_8_method_21_code 8 = .ok (.if_icmp .ge 32, 3) := by decide +kernel
theorem d_Re_plain_11 : decode prog_8_method_21_code 11 = .ok (.aload_n 0, 1) := by decide +kernel
theorem d_Re_plain_12 : decode prog_8_method_21_code 12 = .ok (.ldc 144, 2) := by decide +kernel
theorem d_Re_plain_14 : decode prog_8_method_21_code 14 = .ok (.invokevirtual 83, 3) := by decide +kernel
theorem d_Re_plain_17 : decode prog_8_method_21_code 17 = .ok (.ifCond .eq 23, 3) := by decide +kernel
theorem d_Re_plain_20 : decode prog_8_method_21_code 20 = .ok (.iload_n 2, 1) := by decide +kernel
theorem d_Re_plain_21 : decode prog_8_method_21_code 21 = .ok (.ifCond .ne 7, 3) := by decide +kernel
theorem d_Re_plain_24 : decode prog_8_method_21_code 24 = .ok (.iconst 1, 1) := by decide +kernel
theorem d_Re_plain_25 : decode prog_8_method_21_code 25 = .ok (.goto 4, 3) := by decide +kernel
theorem d_Re_plain_28 : decode prog_8_method_21_code 28 = .ok (.iconst 0, 1) := by decide +kernel
theorem d_Re_plain_29 : decode prog_8_method_21_code 29 = .ok (.istore_n 2, 1) := by decide +kernel
theorem d_Re_plain_30 : decode prog_8_method_21_code 30 = .ok (.aload_n 0, 1) := by decide +kernel
theorem d_Re_plain_31 : decode prog_8_method_21_code 31 = .ok (.invokevirtual 38, 3) := by decide +kernel
theorem d_Re_plain_34 : decode prog_8_method_21_code 34 = .ok (.iinc 3 1, 3) := by decide +kernel
theorem d_Re_plain_37 : decode prog_8_method_21_code 37 = .ok (.goto (-33), 3) := by decide +kernel
theorem d_Re_plain_40 : decode prog_8_method_21_code 40 = .ok (.aload_n 0, 1) := by decide +kernel
theorem d_Re_plain_41 : decode prog_8_method_21_code 41 = .ok (.bipush 40, 2) := by decide +kernel
theorem d_Re_plain_43 : decode prog_8_method_21_code 43 = .ok (.invokevirtual 48, 3) := by decide +kernel
theorem d_Re_plain_46 : decode prog_8_method_21_code 46 = .ok (.ifCond .eq 39, 3) := by decide +kernel
theorem d_Re_plain_49 : decode prog_8_method_21_code 49 = .ok (.iload_n 1, 1) := by decide +kernel
theorem d_Re_plain_50 : decode prog_8_method_21_code 50 = .ok (.bipush 8, 2) := by decide +kernel
theorem d_Re_plain_52 : decode prog_8_method_21_code 52 = .ok (.if_icmp .lt 8, 3) := by decide +kernel
theorem d_Re_plain_55 : decode prog_8_method_21_code 55 = .ok (.aload_n 0, 1) := by decide +kernel
theorem d_Re_plain_56 : decode prog_8_method_21_code 56 = .ok (.invokevirtual 54, 3) := by decide +kernel
theorem d_Re_plain_59 : decode prog_8_method_21_code 59 = .ok (.ireturn, 1) := by decide +kernel
theorem d_Re_plain_60 : decode prog_8_method_21_code 60 = .ok (.aload_n 0, 1) := by decide +kernel
theorem d_Re_plain_61 : decode prog_8_method_21_code 61 = .ok (.invokevirtual 38, 3) := by decide +kernel
theorem d_Re_plain_64 : decode prog_8_method_21_code 64 = .ok (.aload_n 0, 1) := by decide +kernel
theorem d_Re_plain_65 : decode prog_8_method_21_code 65 = .ok (.iload_n 1, 1) := by decide +kernel
theorem d_Re_plain_66 : decode prog_8_method_21_code 66 = .ok (.iconst 1, 1) := by decide +kernel
theorem d_Re_plain_67 : decode prog_8_method_21_code 67 = .ok (.iadd, 1) := by decide +kernel
theorem d_Re_plain_68 : decode prog_8_method_21_code 68 = .ok (.invokevirtual 124, 3) := by decide +kernel
theorem d_Re_plain_71 : decode prog_8_method_21_code 71 = .ok (.ifCond .eq 12, 3) := by decide +kernel
theorem d_Re_plain_74 : decode prog_8_method_21_code 74 = .ok (.aload_n 0, 1) := by decide +kernel
theorem d_Re_plain_75 : decode prog_8_method_21_code 75 = .ok (.bipush 41, 2) := by decide +kernel
theorem d_Re_plain_77 : decode prog_8_method_21_code 77 = .ok (.invokevirtual 146, 3) := by decide +kernel
theorem d_Re_plain_80 : decode prog_8_method_21_code 80 = .ok (.ifCond .ne 86, 3) := by decide +kernel
theorem d_Re_plain_83 : decode prog_8_method_21_code 83 = .ok (.iconst 0, 1) := by decide +kernel
theorem d_Re_plain_84 : decode prog_8_method_21_code 84 = .ok (.ireturn, 1) := by decide +kernel
theorem d_Re_plain_85 : decode prog_8_method_21_code 85 = .ok (.aload_n 0, 1) := by decide +kernel
theorem d_Re_plain_86 : decode prog_8_method_21_code 86 = .ok (.iload_n 1, 1) := by decide +kernel
theorem d_Re_plain_87 : decode prog_8_method_21_code 87 = .ok (.invokevirtual 100, 3) := by decide +kernel
theorem d_Re_plain_90 : decode prog_8_method_21_code 90 = .ok (.ifCond .ne 5, 3) := by decide +kernel
theorem d_Re_plain_93 : decode prog_8_method_21_code 93 = .ok (.iconst 0, 1) := by decide +kernel
theorem d_Re_plain_94 : decode prog_8_method_21_code 94 = .ok (.ireturn, 1) := by decide +kernel
theorem d_Re_plain_95 : decode prog_8_method_21_code 95 = .ok (.aload_n 0, 1) := by decide +kernel
theorem d_Re_plain_96 : decode prog_8_method_21_code 96 = .ok (.bipush 60, 2) := by decide +kernel
theorem d_Re_plain_98 : decode prog_8_method_21_code 98 = .ok (.invokevirtual 48, 3) := by decide +kernel
theorem d_Re_plain_101 : decode prog_8_method_21_code 101 = .ok (.ifCond .eq 8, 3) := by decide +kernel
theorem d_Re_plain_104 : decode prog_8_method_21_code 104 = .ok (.bipush 11, 2) := by decide +kernel
theorem d_Re_plain_106 : decode prog_8_method_21_code 106 = .ok (.goto 19, 3) := by decide +kernel
theorem d_Re_plain_109 : decode prog_8_method_21_code 109 = .ok (.aload_n 0, 1) := by decide +kernel
theorem d_Re_plain_110 : decode prog_8_method_21_code 110 = .ok (.bipush 62, 2) := by decide +kernel
theorem d_Re_plain_112 : decode prog_8_method_21_code 112 = .ok (.invokevirtual 48, 3) := by decide +kernel
theorem d_Re_plain_115 : decode prog_8_method_21_code 115 = .ok (.ifCond .eq 8, 3) := by decide +kernel
theorem d_Re_plain_118 : decode prog_8_method_21_code 118 = .ok (.bipush 12, 2) := by decide +kernel
theorem d_Re_plain_120 : decode prog_8_method_21_code 120 = .ok (.goto 5, 3) := by decide +kernel
theorem d_Re_plain_123 : decode prog_8_method_21_code 123 = .ok (.bipush 13, 2) := by decide +kernel
theorem d_Re_plain_125 : decode prog_8_method_21_code 125 = .ok (.istore_n 3, 1) := by decide +kernel
theorem d_Re_plain_126 : decode prog_8_method_21_code 126 = .ok (.iload_n 3, 1) := by decide +kernel
theorem d_Re_plain_127 : decode prog_8_method_21_code 127 = .ok (.bipush 13, 2) := by decide +kernel
theorem d_Re_plain_129 : decode prog_8_method_21_code 129 = .ok (.if_icmp .ne 17, 3) := by decide +kernel
theorem d_Re_plain_132 : decode prog_8_method_21_code 132 = .ok (.aload_n 0, 1) := by decide +kernel
theorem d_Re_plain_133 : decode prog_8_method_21_code 133 = .ok (.bipush 61, 2) := by decide +kernel
theorem d_Re_plain_135 : decode prog_8_method_21_code 135 = .ok (.invokevirtual 48, 3) := by decide +kernel
theorem d_Re_plain_138 : decode prog_8_method_21_code 138 = .ok (.ifCond .ne 8, 3) := by decide +kernel
theorem d_Re_plain_141 : decode prog_8_method_21_code 141 = .ok (.aload_n 0, 1) := by decide +kernel
theorem d_Re_plain_142 : decode prog_8_method_21_code 142 = .ok (.invokevirtual 54, 3) := by decide +kernel
theorem d_Re_plain_145 : decode prog_8_method_21_code 145 = .ok (.ireturn, 1) := by decide +kernel
theorem d_Re_plain_146 : decode prog_8_method_21_code 146 = .ok (.aload_n 0, 1) := by decide +kernel
theorem d_Re_plain_147 : decode prog_8_method_21_code 147 = .ok (.invokevirtual 38, 3) := by decide +kernel
theorem d_Re_plain_150 : decode prog_8_method_21_code 150 = .ok (.aload_n 0, 1) := by decide +kernel
theorem d_Re_plain_151 : decode prog_8_method_21_code 151 = .ok (.iload_n 1, 1) := by decide +kernel
theorem d_Re_plain_152 : decode prog_8_method_21_code 152 = .ok (.invokevirtual 100, 3) := by decide +kernel
theorem d_Re_plain_155 : decode prog_8_method_21_code 155 = .ok (.ifCond .ne 5, 3) := by decide +kernel
theorem d_Re_plain_158 : decode prog_8_method_21_code 158 = .ok (.iconst 0, 1) := by decide +kernel
theorem d_Re_plain_159 : decode prog_8_method_21_code 159 = .ok (.ireturn, 1) := by decide +kernel
theorem d_Re_plain_160 : decode prog_8_method_21_code 160 = .ok (.aload_n 0, 1) := by decide +kernel
theorem d_Re_plain_161 : decode prog_8_method_21_code 161 = .ok (.iload_n 3, 1) := by decide +kernel
theorem d_Re_plain_162 : decode prog_8_method_21_code 162 = .ok (.iconst 0, 1) := by decide +kernel
theorem d_Re_plain_163 : decode prog_8_method_21_code 163 = .ok (.invokevirtual 132, 3) := by decide +kernel
theorem d_Re_plain_166 : decode prog_8_method_21_code 166 = .ok (.iload_n 2, 1) := by decide +kernel
theorem d_Re_plain_167 : decode prog_8_method_21_code 167 = .ok (.ifCond .eq 9, 3) := by decide +kernel
theorem d_Re_plain_170 : decode prog_8_method_21_code 170 = .ok (.aload_n 0, 1) := by decide +kernel
theorem d_Re_plain_171 : decode prog_8_method_21_code 171 = .ok (.iconst 3, 1) := by decide +kernel
theorem d_Re_plain_172 : decode prog_8_method_21_code 172 = .ok (.iconst 0, 1) := by decide +kernel
theorem d_Re_plain_173 : decode prog_8_method_21_code 173 = .ok (.invokevirtual 132, 3) := by decide +kernel
theorem d_Re_plain_176 : decode prog_8_method_21_code 176 = .ok (.iconst 1, 1) := by decide +kernel
theorem d_Re_plain_177 : decode prog_8_method_21_code 177 = .ok (.ireturn, 1) := by decide +kernel
def w_Re_plain {d : Nat} (hd : 10 ≤ d) := (show SS ("DebtDoors$Reader", prog_8_method_21_code, 4) (some .boolean) d 0 0 0 0 _ from (sS (p1 := 2) (sIn 2 (xE (rI d_Re_plain_0 rfl)) d_Re_plain_1 rfl (by decide)) (sS (p1 := 40) (sS (p1 := 4) (sIn 3 (xE (rI d_Re_plain_2 rfl)) d_Re_plain_3 rfl (by decide)) (sLp (ps := 34) (tt := 20) (pn := 40) (p1 := 0) (p2 := 0) (xC (rAnd (mm := 11) (rNot (rJ2 (tgt := 40) j_ge (rIn 3 d_Re_plain_4 rfl) (rSi d_Re_plain_5 rfl) d_Re_plain_8 (by decide))) (rNot (rJ1 (tgt := 40) k_eq (rV p_Re_isWord (Nat.le_trans (Nat.le_of_ble_eq_true rfl) hd) lv_Re_83 (rAs (rAr rA0 (rAn 0 d_Re_plain_11 rfl)) (rTx (i := 8) (by decide) rfl rfl d_Re_plain_12)) (by decide) d_Re_plain_14) d_Re_plain_17 (by decide))))) (sS (p1 := 30) (sIn 2 (xE (rTb (rNot (rJ1 (tgt := 28) k_ne (rIn 2 d_Re_plain_20 rfl) d_Re_plain_21 (by decide))) (rGoE (p2 := 29) (rI d_Re_plain_24 rfl) d_Re_plain_25 (by decide)) (rI d_Re_plain_28 rfl))) d_Re_plain_29 rfl (by decide)) (sV (xVv lv_Re_38 (xA (rAr rA0 (rAn 0 d_Re_plain_30 rfl))) (by decide) d_Re_plain_31))) (sGo (pn := 4) (sInc d_Re_plain_34 (by decide)) d_Re_plain_37 (by decide)))) (sS (p1 := 166) (sIe (pn := 166) (tt := 49) (ff := 85) (xC (rNot (rJ1 (tgt := 85) k_eq (rV p_Re_isSign (Nat.le_trans (Nat.le_of_ble_eq_true rfl) hd) lv_Re_48 (rAi (rAr rA0 (rAn 0 d_Re_plain_40 rfl)) (rB d_Re_plain_41 rfl)) (by decide) d_Re_plain_43) d_Re_plain_46 (by decide)))) (sS (p1 := 60) (sIf (pn := 60) (tt := 55) (xC (rNot (rJ2 (tgt := 60) j_lt (rIn 1 d_Re_plain_49 rfl) (rB d_Re_plain_50 rfl) d_Re_plain_52 (by decide)))) (sRz (xV lv_Re_54 (xA (rAr rA0 (rAn 0 d_Re_plain_55 rfl))) (by decide) d_Re_plain_56) d_Re_plain_59 rfl)) (sS (p1 := 64) (sV (xVv lv_Re_38 (xA (rAr rA0 (rAn 0 d_Re_plain_60 rfl))) (by decide) d_Re_plain_61)) (sIf (pn := 166) (tt := 83) (xOr (mm := 74) (xNot (xNot (xJ1 (tgt := 83) k_eq (xV lv_Re_124 (xA (rAi (rAr rA0 (rAn 0 d_Re_plain_64 rfl)) (r2 o_add (rIn 1 d_Re_plain_65 rfl) (rI d_Re_plain_66 rfl) d_Re_plain_67))) (by decide) d_Re_plain_68) d_Re_plain_71 (by decide)))) (xNot (xJ1 (tgt := 166) k_ne (xV lv_Re_146 (xA (rAi (rAr rA0 (rAn 0 d_Re_plain_74 rfl)) (rB d_Re_plain_75 rfl))) (by decide) d_Re_plain_77) d_Re_plain_80 (by decide)))) (sRz (xE (rI d_Re_plain_83 rfl)) d_Re_plain_84 rfl)))) (sS (p1 := 95) (sIf (pn := 95) (tt := 93) (xNot (xJ1 (tgt := 95) k_ne (xV lv_Re_100 (xA (rAi (rAr rA0 (rAn 0 d_Re_plain_85 rfl)) (rIn 1 d_Re_plain_86 rfl))) (by decide) d_Re_plain_87) d_Re_plain_90 (by decide))) (sRz (xE (rI d_Re_plain_93 rfl)) d_Re_plain_94 rfl)) (sS (p1 := 126) (sIn 3 (xE (rT2 (rNot (rJ1 (tgt := 109) k_eq (rV p_Re_isSign (Nat.le_trans (Nat.le_of_ble_eq_true rfl) hd) lv_Re_48 (rAi (rAr rA0 (rAn 0 d_Re_plain_95 rfl)) (rB d_Re_plain_96 rfl)) (by decide) d_Re_plain_98) d_Re_plain_101 (by decide))) (rGoE (p2 := 125) (rB d_Re_plain_104 rfl) d_Re_plain_106 (by decide)) (rT2 (rNot (rJ1 (tgt := 123) k_eq (rV p_Re_isSign (Nat.le_trans (Nat.le_of_ble_eq_true rfl) hd) lv_Re_48 (rAi (rAr rA0 (rAn 0 d_Re_plain_109 rfl)) (rB d_Re_plain_110 rfl)) (by decide) d_Re_plain_112) d_Re_plain_115 (by decide))) (rGoE (p2 := 125) (rB d_Re_plain_118 rfl) d_Re_plain_120 (by decide)) (rB d_Re_plain_123 rfl)))) d_Re_plain_125 rfl (by decide)) (sS (p1 := 146) (sIf (pn := 146) (tt := 141) (xC (rAnd (mm := 132) (rNot (rJ2 (tgt := 146) j_ne (rIn 3 d_Re_plain_126 rfl) (rB d_Re_plain_127 rfl) d_Re_plain_129 (by decide))) (rNot (rJ1 (tgt := 146) k_ne (rV p_Re_isSign (Nat.le_trans (Nat.le_of_ble_eq_true rfl) hd) lv_Re_48 (rAi (rAr rA0 (rAn 0 d_Re_plain_132 rfl)) (rB d_Re_plain_133 rfl)) (by decide) d_Re_plain_135) d_Re_plain_138 (by decide))))) (sRz (xV lv_Re_54 (xA (rAr rA0 (rAn 0 d_Re_plain_141 rfl))) (by decide) d_Re_plain_142) d_Re_plain_145 rfl)) (sS (p1 := 150) (sV (xVv lv_Re_38 (xA (rAr rA0 (rAn 0 d_Re_plain_146 rfl))) (by decide) d_Re_plain_147)) (sS (p1 := 160) (sIf (pn := 160) (tt := 158) (xNot (xJ1 (tgt := 160) k_ne (xV lv_Re_100 (xA (rAi (rAr rA0 (rAn 0 d_Re_plain_150 rfl)) (rIn 1 d_Re_plain_151 rfl))) (by decide) d_Re_plain_152) d_Re_plain_155 (by decide))) (sRz (xE (rI d_Re_plain_158 rfl)) d_Re_plain_159 rfl)) (sV (xVv lv_Re_132 (xA (rAi (rAi (rAr rA0 (rAn 0 d_Re_plain_160 rfl)) (rIn 3 d_Re_plain_161 rfl)) (rI d_Re_plain_162 rfl))) (by decide) d_Re_plain_163)))))))) (sS (p1 := 176) (sIf (pn := 176) (tt := 170) (xC (rNot (rJ1 (tgt := 176) k_eq (rIn 2 d_Re_plain_166 rfl) d_Re_plain_167 (by decide)))) (sV (xVv lv_Re_132 (xA (rAi (rAi (rAr rA0 (rAn 0 d_Re_plain_170 rfl)) (rI d_Re_plain_171 rfl)) (rI d_Re_plain_172 rfl))) (by decide) d_Re_plain_173))) (sRz (xE (rI d_Re_plain_176 rfl)) d_Re_plain_177 rfl))))))
set_option maxRecDepth 20000 in
theorem q_Re_both {d dp : Nat} (hd : 12 ≤ d) (hdp : dp + 1 ≤ d) {B : Int → Int} {n : Nat} {o : Bool} {pp : Pr} {b : Int} (hB : okB B n) (hG : PG (cT B n) n pp) (hp : CT dp y_Re_plain [vi b] B n o pp) : CT d y_Re_both [vi b] B n o (pRow (cT B n) oBoth true pp) := by
  intro μ t l w h hl ht hw
  have hB1 := hB.1
  refine zSp.ss [vr 321, vi b, vx 0, vx 0] rfl (w_Re_both (Nat.le_trans (by decide) hd)) rfl rfl ?_
  (try simp only [zit_e, Bool.and_eq_true, Bool.or_eq_true, Bool.not_eq_true', Bool.and_eq_false_iff, Bool.or_eq_false_iff, Bool.not_eq_false', zbe, zdt, zdf, zb2_p, zbp_0, zbp_1, zbp_inj, zbp_01, Bool.true_eq_false, Bool.false_eq_true, true_and, and_true, Decidable.not_not, Classical.not_not, implies_true, List.nil_append, List.cons_append, List.append_assoc, Option.some.injEq, Sum.inl.injEq, zSw_c, zSw_n]); (try simp only [zit_e, Bool.and_eq_true, Bool.or_eq_true, Bool.not_eq_true', Bool.and_eq_false_iff, Bool.or_eq_false_iff, Bool.not_eq_false', zbe, zdt, zdf, zb2_p, zbp_0, zbp_1, zbp_inj, zbp_01, Bool.true_eq_false, Bool.false_eq_true, true_and, and_true, Decidable.not_not, Classical.not_not, implies_true, List.nil_append, List.cons_append, List.append_assoc, Option.some.injEq, Sum.inl.injEq, zSw_c, zSw_n, zc_321, f_Re_isWord, g_Re_isWord]); (try simp only [zi_cs, zi_c0, zii_cs, zii_c0, zl_cs, zl_c0, zll_cs, zll_c0, zr_cs, zr_c0, zrr_cs, zrr_c0, zxs_cs, zxs_c0, zxx_cs, zxx_c0, zfree_c0, zfree_c1, zfree_cs, zfree_cz, zlong_i, zlong_r, zlong_x, zset_0, zset_s, true_and, and_true, Option.some.injEq, Sum.inl.injEq, Sum.inr.injEq, zb2_p, zbp_0, zbp_1, zbp_inj, zbp_01, Nat.zero_add, Nat.reduceAdd, implies_true, List.nil_append, List.cons_append, List.append_assoc, Int.not_lt, Int.not_le, Decidable.not_not, Int.zero_add, Int.reduceLE, Int.reduceLT, Int.reduceEq, Int.reduceNe, Int.reduceAdd, Int.reduceSub, Int.reduceMul, Int.reduceNeg, Int.reduceToNat, Nat.reduceMul, Nat.reduceLT, Nat.reduceEqDiff, and_self, ite_true, ite_false, zx1, zx2, zRecv, List.length_cons, List.length_nil, ne_eq, not_true_eq_false, not_false_eq_true, true_or, or_true, or_false, false_or, and_false, false_and, zf01, zf10, reduceCtorEq, zSw_c, zSw_n, zm_r, zit_T, zit_F, false_implies, true_implies, zc_321, f_Re_isWord, g_Re_isWord])
  refine zCw.use (hp μ t l w h hl ht hw) hdp (fun r μ1 e => ?_)
  have hg := hG t l w hl ht
  rcases h1 : pp t l w with ⟨t1, _ | ⟨l1, m1, c1⟩⟩
  · obtain ⟨rfl, e1, e2⟩ := e.1 _ h1
    exact ⟨0, rfl, by rw [if_pos rfl, pRow_n h1]; exact RP_n rfl e1 e2⟩
  obtain ⟨rfl, e1, e2, e3, e4⟩ := e.2 _ _ _ _ h1
  have hg1 := hg.2 _ _ _ _ h1
  refine ⟨1, rfl, ?_⟩
  rw [if_neg (by decide)]
  generalize hR : pRow (cT B n) oBoth true pp t l w = R
  rw [pRow_s h1] at hR
  refine zLoop.up 400 (fun j ρ μ2 => ∃ (x3 : zV) (t1 l1 : Nat) (m1 : Mn) (cc : List Int), ρ = [vr 321, vi b, vi j, x3] ∧ PSt B n o t1 l1 (w + cc.length) μ2 ∧ Seg (μ2 323) w cc ∧ (∀ i : Int, i < w → μ2 323 i = μ 323 i) ∧ FR μ μ2 ∧ (l1 ≤ 50 ∧ t1 ≤ n ∧ w + cc.length + 1 ≤ 85 + 2 * l1 + NT (cT B n) t1) ∧ R = pCat cc (pLoop (cT B n) oBoth true pp (400 - j) m1 t1 l1 (w + cc.length))) ⟨vx 0, t1, l1, m1, c1, rfl, e1, e2, e3, e4, by omega, hR.symm⟩ ?_
  clear hR e1 e2 e3 e4 hg1 h1 e hg
  rintro j ρ μ2 hj ⟨x3, t1, l1, m1, cc, rfl, hP, hS, hlo, hF, hbd, hR⟩
  have hwd := RD_word hB hP.1 (show 2 ≤ 9 ∧ 9 < 13 by decide)
  have hk9 : kwF 9 (cT B n t1) = if cT B n t1 = 7 then 0 else -1 := rfl
  have hpp := RD_p hP.1
  have hnum := RD_num hB hP.1
  (try simp only [zit_e, Bool.and_eq_true, Bool.or_eq_true, Bool.not_eq_true', Bool.and_eq_false_iff, Bool.or_eq_false_iff, Bool.not_eq_false', zbe, zdt, zdf, zb2_p, zbp_0, zbp_1, zbp_inj, zbp_01, Bool.true_eq_false, Bool.false_eq_true, true_and, and_true, Decidable.not_not, Classical.not_not, implies_true, List.nil_append, List.cons_append, List.append_assoc, Option.some.injEq, Sum.inl.injEq, zSw_c, zSw_n]); (try simp only [zit_e, Bool.and_eq_true, Bool.or_eq_true, Bool.not_eq_true', Bool.and_eq_false_iff, Bool.or_eq_false_iff, Bool.not_eq_false', zbe, zdt, zdf, zb2_p, zbp_0, zbp_1, zbp_inj, zbp_01, Bool.true_eq_false, Bool.false_eq_true, true_and, and_true, Decidable.not_not, Classical.not_not, implies_true, List.nil_append, List.cons_append, List.append_assoc, Option.some.injEq, Sum.inl.injEq, zSw_c, zSw_n, zc_321, f_Re_isWord, g_Re_isWord]); (try simp only [zi_cs, zi_c0, zii_cs, zii_c0, zl_cs, zl_c0, zll_cs, zll_c0, zr_cs, zr_c0, zrr_cs, zrr_c0, zxs_cs, zxs_c0, zxx_cs, zxx_c0, zfree_c0, zfree_c1, zfree_cs, zfree_cz, zlong_i, zlong_r, zlong_x, zset_0, zset_s, true_and, and_true, Option.some.injEq, Sum.inl.injEq, Sum.inr.injEq, zb2_p, zbp_0, zbp_1, zbp_inj, zbp_01, Nat.zero_add, Nat.reduceAdd, implies_true, List.nil_append, List.cons_append, List.append_assoc, Int.not_lt, Int.not_le, Decidable.not_not, Int.zero_add, Int.reduceLE, Int.reduceLT, Int.reduceEq, Int.reduceNe, Int.reduceAdd, Int.reduceSub, Int.reduceMul, Int.reduceNeg, Int.reduceToNat, Nat.reduceMul, Nat.reduceLT, Nat.reduceEqDiff, and_self, ite_true, ite_false, zx1, zx2, zRecv, List.length_cons, List.length_nil, ne_eq, not_true_eq_false, not_false_eq_true, true_or, or_true, or_false, false_or, and_false, false_and, zf01, zf10, reduceCtorEq, zSw_c, zSw_n, zm_r, zit_T, zit_F, false_implies, true_implies, zc_321, f_Re_isWord, g_Re_isWord])
  rw [hwd, hk9]
  refine ⟨fun _ => ⟨by decide, fun q => by omega⟩, ?_⟩
  refine zif (fun c => ?_) (fun c => ?_)
  · have c7 : cT B n t1 = 7 := by
      apply Classical.byContradiction
      intro q
      rw [if_neg q] at c
      omega
    have hop : ¬ oBoth (cT B n t1) = 0 := by
      rw [c7]
      decide
    have hov : oBoth (cT B n t1) = 4 := by
      rw [c7]
      rfl
    have htn : t1 < n := zNlt (c := cT B n) (fun u hu => cT_N u hu) (fun q => hop (by rw [q]; rfl))
    have hmo := NT_mono (c := cT B n) (t := t1) 1
    have h133 := NT_le133 hB t1
    refine nx_w (by omega) hB hP (fun μ3 a1 a2 a3 => ⟨rfl, ?_⟩)
    rw [a1.2.2.1]
    refine wr_w (by omega) a1 (by omega) (by decide) (by decide) (fun μ4 g1 g2 g3 g4 => ⟨rfl, ?_⟩)
    refine zCw.use (hp μ4 (t1 + 1) l1 (w + cc.length + 1) g1 hbd.1 htn (by omega)) hdp (fun r μ5 e => ?_)
    have hg := hG (t1 + 1) l1 (w + cc.length + 1) hbd.1 htn
    rcases h1 : pp (t1 + 1) l1 (w + cc.length + 1) with ⟨t2, _ | ⟨l2, m2, c2⟩⟩
    · obtain ⟨rfl, e1, e2⟩ := e.1 _ h1
      rw [show 400 - j = (400 - (j + 1)) + 1 by omega, pLoop_n hop h1] at hR
      refine ⟨0, rfl, ?_⟩
      rw [if_pos rfl, hR]
      exact RP_n rfl e1 (((hF.tr a2).tr g2).tr e2)
    obtain ⟨rfl, e1, e2, e3, e4⟩ := e.2 _ _ _ _ h1
    have hg1 := hg.2 _ _ _ _ h1
    rw [show 400 - j = (400 - (j + 1)) + 1 by omega, pLoop_s hop h1, pCat_cat, hov, if_pos rfl] at hR
    have h134 := NT_le133 hB t2
    refine ⟨1, rfl, ?_⟩
    rw [if_neg (by decide)]
    refine jh_w (by omega) e1 (by decide) (by omega) (by omega) (fun μ6 b1 b2 b3 b4 => ⟨rfl, zI_s (by omega) (by omega), znx (by omega) ⟨_, t2, l2, mOp 4 m1 m2, cc ++ ((4 * 4096 + ((w + cc.length + c2.length + 1 : Nat) : Int)) :: c2), rfl, ?_, ?_, fun i hi => ?_, (((hF.tr a2).tr g2).tr e4).tr b2, ?_, ?_⟩⟩)
    · simp only [List.length_append, List.length_cons]
      rw [show w + (cc.length + (c2.length + 1)) = w + cc.length + 1 + c2.length by omega]
      exact b1
    · rw [Seg_app, Seg_cons]
      refine ⟨Seg_d hS (fun i h0 hi => ?_), ?_, Seg_d e2 (fun i h0 hi => ?_)⟩
      · rw [b4 i (by omega), e3 i (by omega), g4 i (by omega), a3]
      · rw [b3]
        omega
      · rw [b4 i (by omega)]
    · rw [b4 i (by omega), e3 i (by omega), g4 i (by omega), a3]
      exact hlo i hi
    · simp only [List.length_append, List.length_cons]
      omega
    · simp only [List.length_append, List.length_cons]
      rw [hR, show w + (cc.length + (c2.length + 1)) = w + cc.length + c2.length + 1 by omega]
  · have hop : j = 400 ∨ oBoth (cT B n t1) = 0 := by
      unfold oBoth
      by_cases q : cT B n t1 = 7
      · rw [if_pos q] at c
        omega
      · rw [if_neg q]
        exact Or.inr rfl
    have hz : pLoop (cT B n) oBoth true pp (400 - j) m1 t1 l1 (w + cc.length) = (t1, some (l1, m1, [])) := by
      rcases hop with rfl | hop
      · rfl
      · exact pLoop_0 hop
    rw [hz] at hR
    rw [hR]
    exact RP_s rfl (by rw [List.append_nil]; exact hP) (by rw [List.append_nil]; exact hS) hlo hF

