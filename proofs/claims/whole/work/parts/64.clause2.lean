/-! the reader's clauses -/
theorem mk_w {d : Nat} (hd : 3 ≤ d) {B : Int → Int} {n : Nat} {o : Bool} {t l w : Nat} {μ : zMem} {k q v : Int} {K : zRo} (h : PSt B n o t l w μ) (hc : 0 ≤ k ∧ k < 12) (hq : 0 ≤ q ∧ q < 7) (hk : ∀ μ', PSt B n o t l w μ' → FR μ μ' → μ' 323 (1 + k * 7 + q) = v → (∀ i : Int, i ≠ 1 + k * 7 + q → μ' 323 i = μ 323 i) → K none μ') : zCw d y_Re_mark [vr 321, vi k, vi q, vi v] μ K :=
  zCw.use (q_Re_mark (d := 2) (by decide) hc hq) hd (fun q μ' e => by
    obtain ⟨rfl, rfl⟩ := e
    refine hk _ ⟨RD_c h.1 (zm_off 322 (by decide)) (fun j hj => ?_), ?_, ?_, ?_⟩ ⟨zfc.rf.zm (by decide), ?_, ?_⟩ zm_s (fun i hi => zm_j hi)
    · rw [zm_off 321 (by decide)]
    · rw [zm_off 321 (by decide)]
      exact h.2.1
    · rw [zm_off 321 (by decide)]
      exact h.2.2.1
    · rw [zm_off 321 (by decide)]
      exact h.2.2.2
    · rw [zm_off 321 (by decide)]
    · rw [zm_off 321 (by decide)])
/-- a row of the program's head -/
def hd_in (k i : Int) : Prop := 1 + k * 7 ≤ i ∧ i < 8 + k * 7
theorem m_Re_mark : Cond.instanceMethod y_Re_mark.1 ∈ zTb ∧ Cond.selects y_Re_mark.1.cls y_Re_mark.1 y_Re_mark.1 ∈ zTb ∧ Cond.initialized y_Re_mark.1.cls ∈ zTb ∧ Cond.code y_Re_mark.1 y_Re_mark.2.1 y_Re_mark.2.2.1 y_Re_mark.2.2.2 ∈ zTb ∧ (y_Re_mark.1.cls ≠ "java/lang/invoke/MethodHandle" ∧ y_Re_mark.1.cls ≠ "java/lang/invoke/VarHandle" ∧ (parseMethodDescriptor y_Re_mark.1.desc).map (fun d => d.parameters.length) = some 3) ∧ y_Re_mark.2.2.1 ≤ 20 :=
  ⟨(zTb_in 821 (by decide +kernel) (by decide +kernel)), (List.mem_filter.mpr ⟨List.mem_append_left _ (by decide +kernel), by decide +kernel⟩), (zTb_in 144 (by decide +kernel) (by decide +kernel)), (zTb_in 822 (by decide +kernel) (by decide +kernel)), by decide +kernel, by decide +kernel⟩
theorem lv_Re_102 : zLv "DebtDoors$Reader" 102 y_Re_mark 3 6 := ⟨⟨(zTb_in 819 (by decide +kernel) (by decide +kernel)), m_Re_mark.1, m_Re_mark.2.1, m_Re_mark.2.2⟩, _, rfl, rfl⟩
def y_Re_maybeTest : zMt := (⟨"DebtDoors$Reader", "maybeTest", "(I)Z"⟩, prog_8_method_19_code, 2, some .boolean)
theorem d_Re_maybeTest_0 : decode prog_8_method_19_code 0 = .ok (.aload_n 0, 1) := by decide +kernel
theorem d_Re_maybeTest_1 : decode prog_8_method_19_code 1 = .ok (.iload_n 1, 1) := by decide +kernel
theorem d_Re_maybeTest_2 : decode prog_8_method_19_code 2 = .ok (.iconst 5, 1) := by decide +kernel
theorem d_Re_maybeTest_3 : decode prog_8_method_19_code 3 = .ok (.aload_n 0, 1) := by decide +kernel
theorem d_Re_maybeTest_4 : decode prog_8_method_19_code 4 = .ok (.getfield 29, 3) := by decide +kernel
theorem d_Re_maybeTest_7 : decode prog_8_method_19_code 7 = .ok (.invokevirtual 102, 3) := by decide +kernel
theorem d_Re_maybeTest_10 : decode prog_8_method_19_code 10 = .ok (.aload_n 0, 1) := by decide +kernel
theorem d_Re_maybeTest_11 : decode prog_8_method_19_code 11 = .ok (.ldc 128, 2) := by decide +kernel
theorem d_Re_maybeTest_13 : decode prog_8_method_19_code 13 = .ok (.invokevirtual 89, 3) := by decide +kernel
theorem d_Re_maybeTest_16 : decode prog_8_method_19_code 16 = .ok (.ifCond .eq 17, 3) := by decide +kernel
theorem d_Re_maybeTest_19 : decode prog_8_method_19_code 19 = .ok (.aload_n 0, 1) := by decide +kernel
theorem d_Re_maybeTest_20 : decode prog_8_method_19_code 20 = .ok (.invokevirtual 38, 3) := by decide +kernel
theorem d_Re_maybeTest_23 : decode prog_8_method_19_code 23 = .ok (.aload_n 0, 1) := by decide +kernel
theorem d_Re_maybeTest_24 : decode prog_8_method_19_code 24 = .ok (.iconst 0, 1) := by decide +kernel
theorem d_Re_maybeTest_25 : decode prog_8_method_19_code 25 = .ok (.invokevirtual 130, 3) := by decide +kernel
theorem d_Re_maybeTest_28 : decode prog_8_method_19_code 28 = .ok (.ifCond .ne 5, 3) := by decide +kernel
theorem d_Re_maybeTest_31 : decode prog_8_method_19_code 31 = .ok (.iconst 0, 1) := by decide +kernel
theorem d_Re_maybeTest_32 : decode prog_8_method_19_code 32 = .ok (.ireturn, 1) := by decide +kernel
theorem d_Re_maybeTest_33 : decode prog_8_method_19_code 33 = .ok (.aload_n 0, 1) := by decide +kernel
theorem d_Re_maybeTest_34 : decode prog_8_method_19_code 34 = .ok (.iload_n 1, 1) := by decide +kernel
theorem d_Re_maybeTest_35 : decode prog_8_method_19_code 35 = .ok (.bipush 6, 2) := by decide +kernel
theorem d_Re_maybeTest_37 : decode prog_8_method_19_code 37 = .ok (.aload_n 0, 1) := by decide +kernel
theorem d_Re_maybeTest_38 : decode prog_8_method_19_code 38 = .ok (.getfield 29, 3) := by decide +kernel
theorem d_Re_maybeTest_41 : decode prog_8_method_19_code 41 = .ok (.invokevirtual 102, 3) := by decide +kernel
theorem d_Re_maybeTest_44 : decode prog_8_method_19_code 44 = .ok (.iconst 1, 1) := by decide +kernel
theorem d_Re_maybeTest_45 : decode prog_8_method_19_code 45 = .ok (.ireturn, 1) := by decide +kernel
def w_Re_maybeTest {d : Nat} (hd : 10 ≤ d) := (show SS ("DebtDoors$Reader", prog_8_method_19_code, 2) (some .boolean) d 0 0 0 0 _ from (sS (p1 := 10) (sV (xVv lv_Re_102 (xA (rAi (rAi (rAi (rAr rA0 (rAn 0 d_Re_maybeTest_0 rfl)) (rIn 1 d_Re_maybeTest_1 rfl)) (rI d_Re_maybeTest_2 rfl)) (rF 5 fl_Re_29 nk_6_5 (rAn 0 d_Re_maybeTest_3 rfl) d_Re_maybeTest_4 rfl))) (by decide) d_Re_maybeTest_7)) (sS (p1 := 33) (sIf (pn := 33) (tt := 19) (xC (rNot (rJ1 (tgt := 33) k_eq (rV p_Re_isWord (Nat.le_trans (Nat.le_of_ble_eq_true rfl) hd) lv_Re_89 (rAs (rAr rA0 (rAn 0 d_Re_maybeTest_10 rfl)) (rTx (i := 5) (by decide) rfl rfl d_Re_maybeTest_11)) (by decide) d_Re_maybeTest_13) d_Re_maybeTest_16 (by decide)))) (sS (p1 := 23) (sV (xVv lv_Re_38 (xA (rAr rA0 (rAn 0 d_Re_maybeTest_19 rfl))) (by decide) d_Re_maybeTest_20)) (sIf (pn := 33) (tt := 31) (xNot (xJ1 (tgt := 33) k_ne (xV lv_Re_130 (xA (rAi (rAr rA0 (rAn 0 d_Re_maybeTest_23 rfl)) (rI d_Re_maybeTest_24 rfl))) (by decide) d_Re_maybeTest_25) d_Re_maybeTest_28 (by decide))) (sRz (xE (rI d_Re_maybeTest_31 rfl)) d_Re_maybeTest_32 rfl)))) (sS (p1 := 44) (sV (xVv lv_Re_102 (xA (rAi (rAi (rAi (rAr rA0 (rAn 0 d_Re_maybeTest_33 rfl)) (rIn 1 d_Re_maybeTest_34 rfl)) (rB d_Re_maybeTest_35 rfl)) (rF 5 fl_Re_29 nk_6_5 (rAn 0 d_Re_maybeTest_37 rfl) d_Re_maybeTest_38 rfl))) (by decide) d_Re_maybeTest_41)) (sRz (xE (rI d_Re_maybeTest_44 rfl)) d_Re_maybeTest_45 rfl)))))
def y_Re_maybeTimes : zMt := (⟨"DebtDoors$Reader", "maybeTimes", "(I)Z"⟩, prog_8_method_18_code, 2, some .boolean)
theorem d_Re_maybeTimes_0 : decode prog_8_method_18_code 0 = .ok (.aload_n 0, 1) := by decide +kernel
theorem d_Re_maybeTimes_1 : decode prog_8_method_18_code 1 = .ok (.ldc 126, 2) := by decide +kernel
theorem d_Re_maybeTimes_3 : decode prog_8_method_18_code 3 = .ok (.invokevirtual 89, 3) := by decide +kernel
theorem d_Re_maybeTimes_6 : decode prog_8_method_18_code 6 = .ok (.ifCond .ne 5, 3) := by decide +kernel
theorem d_Re_maybeTimes_9 : decode prog_8_method_18_code 9 = .ok (.iconst 1, 1) := by decide +kernel
theorem d_Re_maybeTimes_10 : decode prog_8_method_18_code 10 = .ok (.ireturn, 1) := by decide +kernel
theorem d_Re_maybeTimes_11 : decode prog_8_method_18_code 11 = .ok (.aload_n 0, 1) := by decide +kernel
theorem d_Re_maybeTimes_12 : decode prog_8_method_18_code 12 = .ok (.invokevirtual 38, 3) := by decide +kernel
theorem d_Re_maybeTimes_15 : decode prog_8_method_18_code 15 = .ok (.aload_n 0, 1) := by decide +kernel
theorem d_Re_maybeTimes_16 : decode prog_8_method_18_code 16 = .ok (.getfield 51, 3) := by decide +kernel
theorem d_Re_maybeTimes_19 : decode prog_8_method_18_code 19 = .ok (.iconst 2, 1) := by decide +kernel
theorem d_Re_maybeTimes_20 : decode prog_8_method_18_code 20 = .ok (.if_icmp .ne 20, 3) := by decide +kernel
theorem d_Re_maybeTimes_23 : decode prog_8_method_18_code 23 = .ok (.aload_n 0, 1) := by decide +kernel
theorem d_Re_maybeTimes_24 : decode prog_8_method_18_code 24 = .ok (.getfield 67, 3) := by decide +kernel
theorem d_Re_maybeTimes_27 : decode prog_8_method_18_code 27 = .ok (.iconst 1, 1) := by decide +kernel
theorem d_Re_maybeTimes_28 : decode prog_8_method_18_code 28 = .ok (.if_icmp .lt 12, 3) := by decide +kernel
theorem d_Re_maybeTimes_31 : decode prog_8_method_18_code 31 = .ok (.aload_n 0, 1) := by decide +kernel
theorem d_Re_maybeTimes_32 : decode prog_8_method_18_code 32 = .ok (.getfield 67, 3) := by decide +kernel
theorem d_Re_maybeTimes_35 : decode prog_8_method_18_code 35 = .ok (.bipush 20, 2) := by decide +kernel
theorem d_Re_maybeTimes_37 : decode prog_8_method_18_code 37 = .ok (.if_icmp .le 8, 3) := by decide +kernel
theorem d_Re_maybeTimes_40 : decode prog_8_method_18_code 40 = .ok (.aload_n 0, 1) := by decide +kernel
theorem d_Re_maybeTimes_41 : decode prog_8_method_18_code 41 = .ok (.invokevirtual 54, 3) := by decide +kernel
theorem d_Re_maybeTimes_44 : decode prog_8_method_18_code 44 = .ok (.ireturn, 1) := by decide +kernel
theorem d_Re_maybeTimes_45 : decode prog_8_method_18_code 45 = .ok (.aload_n 0, 1) := by decide +kernel
theorem d_Re_maybeTimes_46 : decode prog_8_method_18_code 46 = .ok (.iload_n 1, 1) := by decide +kernel
theorem d_Re_maybeTimes_47 : decode prog_8_method_18_code 47 = .ok (.iconst 1, 1) := by decide +kernel
theorem d_Re_maybeTimes_48 : decode prog_8_method_18_code 48 = .ok (.aload_n 0, 1) := by decide +kernel
theorem d_Re_maybeTimes_49 : decode prog_8_method_18_code 49 = .ok (.getfield 67, 3) := by decide +kernel
theorem d_Re_maybeTimes_52 : decode prog_8_method_18_code 52 = .ok (.invokevirtual 102, 3) := by decide +kernel
theorem d_Re_maybeTimes_55 : decode prog_8_method_18_code 55 = .ok (.aload_n 0, 1) := by decide +kernel
theorem d_Re_maybeTimes_56 : decode prog_8_method_18_code 56 = .ok (.invokevirtual 38, 3) := by decide +kernel
theorem d_Re_maybeTimes_59 : decode prog_8_method_18_code 59 = .ok (.iconst 1, 1) := by decide +kernel
theorem d_Re_maybeTimes_60 : decode prog_8_method_18_code 60 = .ok (.ireturn, 1) := by decide +kernel
def w_Re_maybeTimes {d : Nat} (hd : 10 ≤ d) := (show SS ("DebtDoors$Reader", prog_8_method_18_code, 2) (some .boolean) d 0 0 0 0 _ from (sS (p1 := 11) (sIf (pn := 11) (tt := 9) (xC (rNot (rJ1 (tgt := 11) k_ne (rV p_Re_isWord (Nat.le_trans (Nat.le_of_ble_eq_true rfl) hd) lv_Re_89 (rAs (rAr rA0 (rAn 0 d_Re_maybeTimes_0 rfl)) (rTx (i := 4) (by decide) rfl rfl d_Re_maybeTimes_1)) (by decide) d_Re_maybeTimes_3) d_Re_maybeTimes_6 (by decide)))) (sRz (xE (rI d_Re_maybeTimes_9 rfl)) d_Re_maybeTimes_10 rfl)) (sS (p1 := 15) (sV (xVv lv_Re_38 (xA (rAr rA0 (rAn 0 d_Re_maybeTimes_11 rfl))) (by decide) d_Re_maybeTimes_12)) (sS (p1 := 45) (sIf (pn := 45) (tt := 40) (xC (rOr (mm := 31) (rOr (mm := 23) (rJ2 (tgt := 40) j_ne (rF 7 fl_Re_51 nk_6_7 (rAn 0 d_Re_maybeTimes_15 rfl) d_Re_maybeTimes_16 rfl) (rI d_Re_maybeTimes_19 rfl) d_Re_maybeTimes_20 (by decide)) (rJ2 (tgt := 40) j_lt (rF 10 fl_Re_67 nk_6_10 (rAn 0 d_Re_maybeTimes_23 rfl) d_Re_maybeTimes_24 rfl) (rI d_Re_maybeTimes_27 rfl) d_Re_maybeTimes_28 (by decide))) (rNot (rJ2 (tgt := 45) j_le (rF 10 fl_Re_67 nk_6_10 (rAn 0 d_Re_maybeTimes_31 rfl) d_Re_maybeTimes_32 rfl) (rB d_Re_maybeTimes_35 rfl) d_Re_maybeTimes_37 (by decide))))) (sRz (xV lv_Re_54 (xA (rAr rA0 (rAn 0 d_Re_maybeTimes_40 rfl))) (by decide) d_Re_maybeTimes_41) d_Re_maybeTimes_44 rfl)) (sS (p1 := 55) (sV (xVv lv_Re_102 (xA (rAi (rAi (rAi (rAr rA0 (rAn 0 d_Re_maybeTimes_45 rfl)) (rIn 1 d_Re_maybeTimes_46 rfl)) (rI d_Re_maybeTimes_47 rfl)) (rF 10 fl_Re_67 nk_6_10 (rAn 0 d_Re_maybeTimes_48 rfl) d_Re_maybeTimes_49 rfl))) (by decide) d_Re_maybeTimes_52)) (sS (p1 := 59) (sV (xVv lv_Re_38 (xA (rAr rA0 (rAn 0 d_Re_maybeTimes_55 rfl))) (by decide) d_Re_maybeTimes_56)) (sRz (xE (rI d_Re_maybeTimes_59 rfl)) d_Re_maybeTimes_60 rfl)))))))
theorem m_Re_take : Cond.instanceMethod y_Re_take.1 ∈ zTb ∧ Cond.selects y_Re_take.1.cls y_Re_take.1 y_Re_take.1 ∈ zTb ∧ Cond.initialized y_Re_take.1.cls ∈ zTb ∧ Cond.code y_Re_take.1 y_Re_take.2.1 y_Re_take.2.2.1 y_Re_take.2.2.2 ∈ zTb ∧ (y_Re_take.1.cls ≠ "java/lang/invoke/MethodHandle" ∧ y_Re_take.1.cls ≠ "java/lang/invoke/VarHandle" ∧ (parseMethodDescriptor y_Re_take.1.desc).map (fun d => d.parameters.length) = some 1) ∧ y_Re_take.2.2.1 ≤ 20 :=
  ⟨(zTb_in 870 (by decide +kernel) (by decide +kernel)), (List.mem_filter.mpr ⟨List.mem_append_left _ (by decide +kernel), by decide +kernel⟩), (zTb_in 144 (by decide +kernel) (by decide +kernel)), (zTb_in 871 (by decide +kernel) (by decide +kernel)), by decide +kernel, by decide +kernel⟩
theorem lv_Re_121 : zLv "DebtDoors$Reader" 121 y_Re_take 1 6 := ⟨⟨(zTb_in 868 (by decide +kernel) (by decide +kernel)), m_Re_take.1, m_Re_take.2.1, m_Re_take.2.2⟩, _, rfl, rfl⟩
def y_Re_threeSums : zMt := (⟨"DebtDoors$Reader", "threeSums", "(I)Z"⟩, prog_8_method_17_code, 2, some .boolean)
theorem d_Re_threeSums_0 : decode prog_8_method_17_code 0 = .ok (.aload_n 0, 1) := by decide +kernel
theorem d_Re_threeSums_1 : decode prog_8_method_17_code 1 = .ok (.iload_n 1, 1) := by decide +kernel
theorem d_Re_threeSums_2 : decode prog_8_method_17_code 2 = .ok (.iconst 2, 1) := by decide +kernel
theorem d_Re_threeSums_3 : decode prog_8_method_17_code 3 = .ok (.aload_n 0, 1) := by decide +kernel
theorem d_Re_threeSums_4 : decode prog_8_method_17_code 4 = .ok (.getfield 29, 3) := by decide +kernel
theorem d_Re_threeSums_7 : decode prog_8_method_17_code 7 = .ok (.invokevirtual 102, 3) := by decide +kernel
theorem d_Re_threeSums_10 : decode prog_8_method_17_code 10 = .ok (.aload_n 0, 1) := by decide +kernel
theorem d_Re_threeSums_11 : decode prog_8_method_17_code 11 = .ok (.iconst 0, 1) := by decide +kernel
theorem d_Re_threeSums_12 : decode prog_8_method_17_code 12 = .ok (.invokevirtual 106, 3) := by decide +kernel
theorem d_Re_threeSums_15 : decode prog_8_method_17_code 15 = .ok (.ifCond .eq 12, 3) := by decide +kernel
theorem d_Re_threeSums_18 : decode prog_8_method_17_code 18 = .ok (.aload_n 0, 1) := by decide +kernel
theorem d_Re_threeSums_19 : decode prog_8_method_17_code 19 = .ok (.ldc 120, 2) := by decide +kernel
theorem d_Re_threeSums_21 : decode prog_8_method_17_code 21 = .ok (.invokevirtual 121, 3) := by decide +kernel
theorem d_Re_threeSums_24 : decode prog_8_method_17_code 24 = .ok (.ifCond .ne 5, 3) := by decide +kernel
theorem d_Re_threeSums_27 : decode prog_8_method_17_code 27 = .ok (.iconst 0, 1) := by decide +kernel
theorem d_Re_threeSums_28 : decode prog_8_method_17_code 28 = .ok (.ireturn, 1) := by decide +kernel
theorem d_Re_threeSums_29 : decode prog_8_method_17_code 29 = .ok (.aload_n 0, 1) := by decide +kernel
theorem d_Re_threeSums_30 : decode prog_8_method_17_code 30 = .ok (.iload_n 1, 1) := by decide +kernel
theorem d_Re_threeSums_31 : decode prog_8_method_17_code 31 = .ok (.iconst 3, 1) := by decide +kernel
theorem d_Re_threeSums_32 : decode prog_8_method_17_code 32 = .ok (.aload_n 0, 1) := by decide +kernel
theorem d_Re_threeSums_33 : decode prog_8_method_17_code 33 = .ok (.getfield 29, 3) := by decide +kernel
theorem d_Re_threeSums_36 : decode prog_8_method_17_code 36 = .ok (.invokevirtual 102, 3) := by decide +kernel
theorem d_Re_threeSums_39 : decode prog_8_method_17_code 39 = .ok (.aload_n 0, 1) := by decide +kernel
theorem d_Re_threeSums_40 : decode prog_8_method_17_code 40 = .ok (.iconst 0, 1) := by decide +kernel
theorem d_Re_threeSums_41 : decode prog_8_method_17_code 41 = .ok (.invokevirtual 106, 3) := by decide +kernel
theorem d_Re_threeSums_44 : decode prog_8_method_17_code 44 = .ok (.ifCond .eq 12, 3) := by decide +kernel
theorem d_Re_threeSums_47 : decode prog_8_method_17_code 47 = .ok (.aload_n 0, 1) := by decide +kernel
theorem d_Re_threeSums_48 : decode prog_8_method_17_code 48 = .ok (.ldc 124, 2) := by decide +kernel
theorem d_Re_threeSums_50 : decode prog_8_method_17_code 50 = .ok (.invokevirtual 121, 3) := by decide +kernel
theorem d_Re_threeSums_53 : decode prog_8_method_17_code 53 = .ok (.ifCond .ne 5, 3) := by decide +kernel
theorem d_Re_threeSums_56 : decode prog_8_method_17_code 56 = .ok (.iconst 0, 1) := by decide +kernel
theorem d_Re_threeSums_57 : decode prog_8_method_17_code 57 = .ok (.ireturn, 1) := by decide +kernel
theorem d_Re_threeSums_58 : decode prog_8_method_17_code 58 = .ok (.aload_n 0, 1) := by decide +kernel
theorem d_Re_threeSums_59 : decode prog_8_method_17_code 59 = .ok (.iload_n 1, 1) := by decide +kernel
theorem d_Re_threeSums_60 : decode prog_8_method_17_code 60 = .ok (.iconst 4, 1) := by decide +kernel
theorem d_Re_threeSums_61 : decode prog_8_method_17_code 61 = .ok (.aload_n 0, 1) := by decide +kernel
theorem d_Re_threeSums_62 : decode prog_8_method_17_code 62 = .ok (.getfield 29, 3) := by decide +kernel
theorem d_Re_threeSums_65 : decode prog_8_method_17_code 65 = .ok (.invokevirtual 102, 3) := by decide +kernel
theorem d_Re_threeSums_68 : decode prog_8_method_17_code 68 = .ok (.aload_n 0, 1) := by decide +kernel
theorem d_Re_threeSums_69 : decode prog_8_method_17_code 69 = .ok (.iconst 0, 1) := by decide +kernel
theorem d_Re_threeSums_70 : decode prog_8_method_17_code 70 = .ok (.invokevirtual 106, 3) := by decide +kernel
theorem d_Re_threeSums_73 : decode prog_8_method_17_code 73 = .ok (.ireturn, 1) := by decide +kernel
def w_Re_threeSums {d : Nat} (hd : 1 ≤ d) := (show SS ("DebtDoors$Reader", prog_8_method_17_code, 2) (some .boolean) d 0 0 0 0 _ from (sS (p1 := 10) (sV (xVv lv_Re_102 (xA (rAi (rAi (rAi (rAr rA0 (rAn 0 d_Re_threeSums_0 rfl)) (rIn 1 d_Re_threeSums_1 rfl)) (rI d_Re_threeSums_2 rfl)) (rF 5 fl_Re_29 nk_6_5 (rAn 0 d_Re_threeSums_3 rfl) d_Re_threeSums_4 rfl))) (by decide) d_Re_threeSums_7)) (sS (p1 := 29) (sIf (pn := 29) (tt := 27) (xOr (mm := 18) (xNot (xNot (xJ1 (tgt := 27) k_eq (xV lv_Re_106 (xA (rAi (rAr rA0 (rAn 0 d_Re_threeSums_10 rfl)) (rI d_Re_threeSums_11 rfl))) (by decide) d_Re_threeSums_12) d_Re_threeSums_15 (by decide)))) (xNot (xJ1 (tgt := 29) k_ne (xV lv_Re_121 (xA (rAs (rAr rA0 (rAn 0 d_Re_threeSums_18 rfl)) (rTx (i := 2) (by decide) rfl rfl d_Re_threeSums_19))) (by decide) d_Re_threeSums_21) d_Re_threeSums_24 (by decide)))) (sRz (xE (rI d_Re_threeSums_27 rfl)) d_Re_threeSums_28 rfl)) (sS (p1 := 39) (sV (xVv lv_Re_102 (xA (rAi (rAi (rAi (rAr rA0 (rAn 0 d_Re_threeSums_29 rfl)) (rIn 1 d_Re_threeSums_30 rfl)) (rI d_Re_threeSums_31 rfl)) (rF 5 fl_Re_29 nk_6_5 (rAn 0 d_Re_threeSums_32 rfl) d_Re_threeSums_33 rfl))) (by decide) d_Re_threeSums_36)) (sS (p1 := 58) (sIf (pn := 58) (tt := 56) (xOr (mm := 47) (xNot (xNot (xJ1 (tgt := 56) k_eq (xV lv_Re_106 (xA (rAi (rAr rA0 (rAn 0 d_Re_threeSums_39 rfl)) (rI d_Re_threeSums_40 rfl))) (by decide) d_Re_threeSums_41) d_Re_threeSums_44 (by decide)))) (xNot (xJ1 (tgt := 58) k_ne (xV lv_Re_121 (xA (rAs (rAr rA0 (rAn 0 d_Re_threeSums_47 rfl)) (rTx (i := 3) (by decide) rfl rfl d_Re_threeSums_48))) (by decide) d_Re_threeSums_50) d_Re_threeSums_53 (by decide)))) (sRz (xE (rI d_Re_threeSums_56 rfl)) d_Re_threeSums_57 rfl)) (sS (p1 := 68) (sV (xVv lv_Re_102 (xA (rAi (rAi (rAi (rAr rA0 (rAn 0 d_Re_threeSums_58 rfl)) (rIn 1 d_Re_threeSums_59 rfl)) (rI d_Re_threeSums_60 rfl)) (rF 5 fl_Re_29 nk_6_5 (rAn 0 d_Re_threeSums_61 rfl) d_Re_threeSums_62 rfl))) (by decide) d_Re_threeSums_65)) (sRz (xV lv_Re_106 (xA (rAi (rAr rA0 (rAn 0 d_Re_threeSums_68 rfl)) (rI d_Re_threeSums_69 rfl))) (by decide) d_Re_threeSums_70) d_Re_threeSums_73 rfl)))))))
theorem m_Re_maybeTest : Cond.instanceMethod y_Re_maybeTest.1 ∈ zTb ∧ Cond.selects y_Re_maybeTest.1.cls y_Re_maybeTest.1 y_Re_maybeTest.1 ∈ zTb ∧ Cond.initialized y_Re_maybeTest.1.cls ∈ zTb ∧ Cond.code y_Re_maybeTest.1 y_Re_maybeTest.2.1 y_Re_maybeTest.2.2.1 y_Re_maybeTest.2.2.2 ∈ zTb ∧ (y_Re_maybeTest.1.cls ≠ "java/lang/invoke/MethodHandle" ∧ y_Re_maybeTest.1.cls ≠ "java/lang/invoke/VarHandle" ∧ (parseMethodDescriptor y_Re_maybeTest.1.desc).map (fun d => d.parameters.length) = some 1) ∧ y_Re_maybeTest.2.2.1 ≤ 20 :=
  ⟨(zTb_in 884 (by decide +kernel) (by decide +kernel)), (List.mem_filter.mpr ⟨List.mem_append_left _ (by decide +kernel), by decide +kernel⟩), (zTb_in 144 (by decide +kernel) (by decide +kernel)), (zTb_in 885 (by decide +kernel) (by decide +kernel)), by decide +kernel, by decide +kernel⟩
theorem lv_Re_109 : zLv "DebtDoors$Reader" 109 y_Re_maybeTest 1 6 := ⟨⟨(zTb_in 882 (by decide +kernel) (by decide +kernel)), m_Re_maybeTest.1, m_Re_maybeTest.2.1, m_Re_maybeTest.2.2⟩, _, rfl, rfl⟩
def y_Re_lawClause : zMt := (⟨"DebtDoors$Reader", "lawClause", "(I)Z"⟩, prog_8_method_15_code, 3, some .boolean)
theorem d_Re_lawClause_0 : decode prog_8_method_15_code 0 = .ok (.aload_n 0, 1) := by decide +kernel
theorem d_Re_lawClause_1 : decode prog_8_method_15_code 1 = .ok (.ldc 100, 2) := by decide +kernel
theorem d_Re_lawClause_3 : decode prog_8_method_15_code 3 = .ok (.invokevirtual 76, 3) := by decide +kernel
theorem d_Re_lawClause_6 : decode prog_8_method_15_code 6 = .ok (.istore_n 2, 1) := by decide +kernel
theorem d_Re_lawClause_7 : decode prog_8_method_15_code 7 = .ok (.iload_n 2, 1) := by decide +kernel
theorem d_Re_lawClause_8 : decode prog_8_method_15_code 8 = .ok (.iconst (-1), 1) := by decide +kernel
theorem d_Re_lawClause_9 : decode prog_8_method_15_code 9 = .ok (.if_icmp .ne 8, 3) := by decide +kernel
theorem d_Re_lawClause_12 : decode prog_8_method_15_code 12 = .ok (.aload_n 0, 1) := by decide +kernel
theorem d_Re_lawClause_13 : decode prog_8_method_15_code 13 = .ok (.invokevirtual 54, 3) := by decide +kernel
theorem d_Re_lawClause_16 : decode prog_8_method_15_code 16 = .ok (.ireturn, 1) := by decide +kernel
theorem d_Re_lawClause_17 : decode prog_8_method_15_code 17 = .ok (.aload_n 0, 1) := by decide +kernel
theorem d_Re_lawClause_18 : decode prog_8_method_15_code 18 = .ok (.invokevirtual 38, 3) := by decide +kernel
theorem d_Re_lawClause_21 : decode prog_8_method_15_code 21 = .ok (.aload_n 0, 1) := by decide +kernel
theorem d_Re_lawClause_22 : decode prog_8_method_15_code 22 = .ok (.iload_n 1, 1) := by decide +kernel
theorem d_Re_lawClause_23 : decode prog_8_method_15_code 23 = .ok (.iconst 0, 1) := by decide +kernel
theorem d_Re_lawClause_24 : decode prog_8_method_15_code 24 = .ok (.iload_n 2, 1) := by decide +kernel
theorem d_Re_lawClause_25 : decode prog_8_method_15_code 25 = .ok (.invokevirtual 102, 3) := by decide +kernel
theorem d_Re_lawClause_28 : decode prog_8_method_15_code 28 = .ok (.aload_n 0, 1) := by decide +kernel
theorem d_Re_lawClause_29 : decode prog_8_method_15_code 29 = .ok (.iload_n 1, 1) := by decide +kernel
theorem d_Re_lawClause_30 : decode prog_8_method_15_code 30 = .ok (.iconst 2, 1) := by decide +kernel
theorem d_Re_lawClause_31 : decode prog_8_method_15_code 31 = .ok (.aload_n 0, 1) := by decide +kernel
theorem d_Re_lawClause_32 : decode prog_8_method_15_code 32 = .ok (.getfield 29, 3) := by decide +kernel
theorem d_Re_lawClause_35 : decode prog_8_method_15_code 35 = .ok (.invokevirtual 102, 3) := by decide +kernel
theorem d_Re_lawClause_38 : decode prog_8_method_15_code 38 = .ok (.iload_n 2, 1) := by decide +kernel
theorem d_Re_lawClause_39 : decode prog_8_method_15_code 39 = .ok (.iconst 3, 1) := by decide +kernel
theorem d_Re_lawClause_40 : decode prog_8_method_15_code 40 = .ok (.if_icmp .eq 13, 3) := by decide +kernel
theorem d_Re_lawClause_43 : decode prog_8_method_15_code 43 = .ok (.aload_n 0, 1) := by decide +kernel
theorem d_Re_lawClause_44 : decode prog_8_method_15_code 44 = .ok (.iconst 0, 1) := by decide +kernel
theorem d_Re_lawClause_45 : decode prog_8_method_15_code 45 = .ok (.invokevirtual 106, 3) := by decide +kernel
theorem d_Re_lawClause_48 : decode prog_8_method_15_code 48 = .ok (.ifCond .ne 5, 3) := by decide +kernel
theorem d_Re_lawClause_51 : decode prog_8_method_15_code 51 = .ok (.iconst 0, 1) := by decide +kernel
theorem d_Re_lawClause_52 : decode prog_8_method_15_code 52 = .ok (.ireturn, 1) := by decide +kernel
theorem d_Re_lawClause_53 : decode prog_8_method_15_code 53 = .ok (.aload_n 0, 1) := by decide +kernel
theorem d_Re_lawClause_54 : decode prog_8_method_15_code 54 = .ok (.iload_n 1, 1) := by decide +kernel
theorem d_Re_lawClause_55 : decode prog_8_method_15_code 55 = .ok (.iconst 3, 1) := by decide +kernel
theorem d_Re_lawClause_56 : decode prog_8_method_15_code 56 = .ok (.aload_n 0, 1) := by decide +kernel
theorem d_Re_lawClause_57 : decode prog_8_method_15_code 57 = .ok (.getfield 29, 3) := by decide +kernel
theorem d_Re_lawClause_60 : decode prog_8_method_15_code 60 = .ok (.invokevirtual 102, 3) := by decide +kernel
theorem d_Re_lawClause_63 : decode prog_8_method_15_code 63 = .ok (.aload_n 0, 1) := by decide +kernel
theorem d_Re_lawClause_64 : decode prog_8_method_15_code 64 = .ok (.iload_n 1, 1) := by decide +kernel
theorem d_Re_lawClause_65 : decode prog_8_method_15_code 65 = .ok (.invokevirtual 109, 3) := by decide +kernel
theorem d_Re_lawClause_68 : decode prog_8_method_15_code 68 = .ok (.ireturn, 1) := by decide +kernel
def w_Re_lawClause {d : Nat} (hd : 9 ≤ d) := (show SS ("DebtDoors$Reader", prog_8_method_15_code, 3) (some .boolean) d 0 0 0 0 _ from (sS (p1 := 7) (sIn 2 (xE (rV p_Re_wordIn (Nat.le_trans (Nat.le_of_ble_eq_true rfl) hd) lv_Re_76 (rAs (rAr rA0 (rAn 0 d_Re_lawClause_0 rfl)) (rTx (i := 0) (by decide) rfl rfl d_Re_lawClause_1)) (by decide) d_Re_lawClause_3)) d_Re_lawClause_6 rfl (by decide)) (sS (p1 := 17) (sIf (pn := 17) (tt := 12) (xC (rNot (rJ2 (tgt := 17) j_ne (rIn 2 d_Re_lawClause_7 rfl) (rI d_Re_lawClause_8 rfl) d_Re_lawClause_9 (by decide)))) (sRz (xV lv_Re_54 (xA (rAr rA0 (rAn 0 d_Re_lawClause_12 rfl))) (by decide) d_Re_lawClause_13) d_Re_lawClause_16 rfl)) (sS (p1 := 21) (sV (xVv lv_Re_38 (xA (rAr rA0 (rAn 0 d_Re_lawClause_17 rfl))) (by decide) d_Re_lawClause_18)) (sS (p1 := 28) (sV (xVv lv_Re_102 (xA (rAi (rAi (rAi (rAr rA0 (rAn 0 d_Re_lawClause_21 rfl)) (rIn 1 d_Re_lawClause_22 rfl)) (rI d_Re_lawClause_23 rfl)) (rIn 2 d_Re_lawClause_24 rfl))) (by decide) d_Re_lawClause_25)) (sS (p1 := 38) (sV (xVv lv_Re_102 (xA (rAi (rAi (rAi (rAr rA0 (rAn 0 d_Re_lawClause_28 rfl)) (rIn 1 d_Re_lawClause_29 rfl)) (rI d_Re_lawClause_30 rfl)) (rF 5 fl_Re_29 nk_6_5 (rAn 0 d_Re_lawClause_31 rfl) d_Re_lawClause_32 rfl))) (by decide) d_Re_lawClause_35)) (sS (p1 := 53) (sIf (pn := 53) (tt := 51) (xAnd (mm := 43) (xC (rNot (rJ2 (tgt := 53) j_eq (rIn 2 d_Re_lawClause_38 rfl) (rI d_Re_lawClause_39 rfl) d_Re_lawClause_40 (by decide)))) (xNot (xJ1 (tgt := 53) k_ne (xV lv_Re_106 (xA (rAi (rAr rA0 (rAn 0 d_Re_lawClause_43 rfl)) (rI d_Re_lawClause_44 rfl))) (by decide) d_Re_lawClause_45) d_Re_lawClause_48 (by decide)))) (sRz (xE (rI d_Re_lawClause_51 rfl)) d_Re_lawClause_52 rfl)) (sS (p1 := 63) (sV (xVv lv_Re_102 (xA (rAi (rAi (rAi (rAr rA0 (rAn 0 d_Re_lawClause_53 rfl)) (rIn 1 d_Re_lawClause_54 rfl)) (rI d_Re_lawClause_55 rfl)) (rF 5 fl_Re_29 nk_6_5 (rAn 0 d_Re_lawClause_56 rfl) d_Re_lawClause_57 rfl))) (by decide) d_Re_lawClause_60)) (sRz (xV lv_Re_109 (xA (rAi (rAr rA0 (rAn 0 d_Re_lawClause_63 rfl)) (rIn 1 d_Re_lawClause_64 rfl))) (by decide) d_Re_lawClause_65) d_Re_lawClause_68 rfl)))))))))
theorem m_Re_threeSums : Cond.instanceMethod y_Re_threeSums.1 ∈ zTb ∧ Cond.selects y_Re_threeSums.1.cls y_Re_threeSums.1 y_Re_threeSums.1 ∈ zTb ∧ Cond.initialized y_Re_threeSums.1.cls ∈ zTb ∧ Cond.code y_Re_threeSums.1 y_Re_threeSums.2.1 y_Re_threeSums.2.2.1 y_Re_threeSums.2.2.2 ∈ zTb ∧ (y_Re_threeSums.1.cls ≠ "java/lang/invoke/MethodHandle" ∧ y_Re_threeSums.1.cls ≠ "java/lang/invoke/VarHandle" ∧ (parseMethodDescriptor y_Re_threeSums.1.desc).map (fun d => d.parameters.length) = some 1) ∧ y_Re_threeSums.2.2.1 ≤ 20 :=
  ⟨(zTb_in 827 (by decide +kernel) (by decide +kernel)), (List.mem_filter.mpr ⟨List.mem_append_left _ (by decide +kernel), by decide +kernel⟩), (zTb_in 144 (by decide +kernel) (by decide +kernel)), (zTb_in 828 (by decide +kernel) (by decide +kernel)), by decide +kernel, by decide +kernel⟩
theorem lv_Re_114 : zLv "DebtDoors$Reader" 114 y_Re_threeSums 1 6 := ⟨⟨(zTb_in 825 (by decide +kernel) (by decide +kernel)), m_Re_threeSums.1, m_Re_threeSums.2.1, m_Re_threeSums.2.2⟩, _, rfl, rfl⟩
theorem m_Re_maybeTimes : Cond.instanceMethod y_Re_maybeTimes.1 ∈ zTb ∧ Cond.selects y_Re_maybeTimes.1.cls y_Re_maybeTimes.1 y_Re_maybeTimes.1 ∈ zTb ∧ Cond.initialized y_Re_maybeTimes.1.cls ∈ zTb ∧ Cond.code y_Re_maybeTimes.1 y_Re_maybeTimes.2.1 y_Re_maybeTimes.2.2.1 y_Re_maybeTimes.2.2.2 ∈ zTb ∧ (y_Re_maybeTimes.1.cls ≠ "java/lang/invoke/MethodHandle" ∧ y_Re_maybeTimes.1.cls ≠ "java/lang/invoke/VarHandle" ∧ (parseMethodDescriptor y_Re_maybeTimes.1.desc).map (fun d => d.parameters.length) = some 1) ∧ y_Re_maybeTimes.2.2.1 ≤ 20 :=
  ⟨(zTb_in 879 (by decide +kernel) (by decide +kernel)), (List.mem_filter.mpr ⟨List.mem_append_left _ (by decide +kernel), by decide +kernel⟩), (zTb_in 144 (by decide +kernel) (by decide +kernel)), (zTb_in 880 (by decide +kernel) (by decide +kernel)), by decide +kernel, by decide +kernel⟩
theorem lv_Re_117 : zLv "DebtDoors$Reader" 117 y_Re_maybeTimes 1 6 := ⟨⟨(zTb_in 877 (by decide +kernel) (by decide +kernel)), m_Re_maybeTimes.1, m_Re_maybeTimes.2.1, m_Re_maybeTimes.2.2⟩, _, rfl, rfl⟩
def y_Re_orderClause : zMt := (⟨"DebtDoors$Reader", "orderClause", "(I)Z"⟩, prog_8_method_16_code, 3, some .boolean)
theorem d_Re_orderClause_0 : decode prog_8_method_16_code 0 = .ok (.aload_n 0, 1) := by decide +kernel
theorem d_Re_orderClause_1 : decode prog_8_method_16_code 1 = .ok (.ldc 112, 2) := by decide +kernel
theorem d_Re_orderClause_3 : decode prog_8_method_16_code 3 = .ok (.invokevirtual 76, 3) := by decide +kernel
theorem d_Re_orderClause_6 : decode prog_8_method_16_code 6 = .ok (.istore_n 2, 1) := by decide +kernel
theorem d_Re_orderClause_7 : decode prog_8_method_16_code 7 = .ok (.iload_n 2, 1) := by decide +kernel
theorem d_Re_orderClause_8 : decode prog_8_method_16_code 8 = .ok (.iconst (-1), 1) := by decide +kernel
theorem d_Re_orderClause_9 : decode prog_8_method_16_code 9 = .ok (.if_icmp .ne 8, 3) := by decide +kernel
theorem d_Re_orderClause_12 : decode prog_8_method_16_code 12 = .ok (.aload_n 0, 1) := by decide +kernel
theorem d_Re_orderClause_13 : decode prog_8_method_16_code 13 = .ok (.invokevirtual 54, 3) := by decide +kernel
theorem d_Re_orderClause_16 : decode prog_8_method_16_code 16 = .ok (.ireturn, 1) := by decide +kernel
theorem d_Re_orderClause_17 : decode prog_8_method_16_code 17 = .ok (.aload_n 0, 1) := by decide +kernel
theorem d_Re_orderClause_18 : decode prog_8_method_16_code 18 = .ok (.invokevirtual 38, 3) := by decide +kernel
theorem d_Re_orderClause_21 : decode prog_8_method_16_code 21 = .ok (.aload_n 0, 1) := by decide +kernel
theorem d_Re_orderClause_22 : decode prog_8_method_16_code 22 = .ok (.iload_n 1, 1) := by decide +kernel
theorem d_Re_orderClause_23 : decode prog_8_method_16_code 23 = .ok (.iconst 0, 1) := by decide +kernel
theorem d_Re_orderClause_24 : decode prog_8_method_16_code 24 = .ok (.iload_n 2, 1) := by decide +kernel
theorem d_Re_orderClause_25 : decode prog_8_method_16_code 25 = .ok (.invokevirtual 102, 3) := by decide +kernel
theorem d_Re_orderClause_28 : decode prog_8_method_16_code 28 = .ok (.aload_n 0, 1) := by decide +kernel
theorem d_Re_orderClause_29 : decode prog_8_method_16_code 29 = .ok (.iload_n 1, 1) := by decide +kernel
theorem d_Re_orderClause_30 : decode prog_8_method_16_code 30 = .ok (.iconst 1, 1) := by decide +kernel
theorem d_Re_orderClause_31 : decode prog_8_method_16_code 31 = .ok (.iconst 1, 1) := by decide +kernel
theorem d_Re_orderClause_32 : decode prog_8_method_16_code 32 = .ok (.invokevirtual 102, 3) := by decide +kernel
theorem d_Re_orderClause_35 : decode prog_8_method_16_code 35 = .ok (.iload_n 2, 1) := by decide +kernel
theorem d_Re_orderClause_36 : decode prog_8_method_16_code 36 = .ok (.iconst 2, 1) := by decide +kernel
theorem d_Re_orderClause_37 : decode prog_8_method_16_code 37 = .ok (.if_icmp .eq 11, 3) := by decide +kernel
theorem d_Re_orderClause_40 : decode prog_8_method_16_code 40 = .ok (.aload_n 0, 1) := by decide +kernel
theorem d_Re_orderClause_41 : decode prog_8_method_16_code 41 = .ok (.iload_n 1, 1) := by decide +kernel
theorem d_Re_orderClause_42 : decode prog_8_method_16_code 42 = .ok (.invokevirtual 114, 3) := by decide +kernel
theorem d_Re_orderClause_45 : decode prog_8_method_16_code 45 = .ok (.ifCond .eq 23, 3) := by decide +kernel
theorem d_Re_orderClause_48 : decode prog_8_method_16_code 48 = .ok (.aload_n 0, 1) := by decide +kernel
theorem d_Re_orderClause_49 : decode prog_8_method_16_code 49 = .ok (.iload_n 1, 1) := by decide +kernel
theorem d_Re_orderClause_50 : decode prog_8_method_16_code 50 = .ok (.invokevirtual 117, 3) := by decide +kernel
theorem d_Re_orderClause_53 : decode prog_8_method_16_code 53 = .ok (.ifCond .eq 15, 3) := by decide +kernel
theorem d_Re_orderClause_56 : decode prog_8_method_16_code 56 = .ok (.aload_n 0, 1) := by decide +kernel
theorem d_Re_orderClause_57 : decode prog_8_method_16_code 57 = .ok (.iload_n 1, 1) := by decide +kernel
theorem d_Re_orderClause_58 : decode prog_8_method_16_code 58 = .ok (.invokevirtual 109, 3) := by decide +kernel
theorem d_Re_orderClause_61 : decode prog_8_method_16_code 61 = .ok (.ifCond .eq 7, 3) := by decide +kernel
theorem d_Re_orderClause_64 : decode prog_8_method_16_code 64 = .ok (.iconst 1, 1) := by decide +kernel
theorem d_Re_orderClause_65 : decode prog_8_method_16_code 65 = .ok (.goto 4, 3) := by decide +kernel
theorem d_Re_orderClause_68 : decode prog_8_method_16_code 68 = .ok (.iconst 0, 1) := by decide +kernel
theorem d_Re_orderClause_69 : decode prog_8_method_16_code 69 = .ok (.ireturn, 1) := by decide +kernel
def w_Re_orderClause {d : Nat} (hd : 9 ≤ d) := (show SS ("DebtDoors$Reader", prog_8_method_16_code, 3) (some .boolean) d 0 0 0 0 _ from (sS (p1 := 7) (sIn 2 (xE (rV p_Re_wordIn (Nat.le_trans (Nat.le_of_ble_eq_true rfl) hd) lv_Re_76 (rAs (rAr rA0 (rAn 0 d_Re_orderClause_0 rfl)) (rTx (i := 1) (by decide) rfl rfl d_Re_orderClause_1)) (by decide) d_Re_orderClause_3)) d_Re_orderClause_6 rfl (by decide)) (sS (p1 := 17) (sIf (pn := 17) (tt := 12) (xC (rNot (rJ2 (tgt := 17) j_ne (rIn 2 d_Re_orderClause_7 rfl) (rI d_Re_orderClause_8 rfl) d_Re_orderClause_9 (by decide)))) (sRz (xV lv_Re_54 (xA (rAr rA0 (rAn 0 d_Re_orderClause_12 rfl))) (by decide) d_Re_orderClause_13) d_Re_orderClause_16 rfl)) (sS (p1 := 21) (sV (xVv lv_Re_38 (xA (rAr rA0 (rAn 0 d_Re_orderClause_17 rfl))) (by decide) d_Re_orderClause_18)) (sS (p1 := 28) (sV (xVv lv_Re_102 (xA (rAi (rAi (rAi (rAr rA0 (rAn 0 d_Re_orderClause_21 rfl)) (rIn 1 d_Re_orderClause_22 rfl)) (rI d_Re_orderClause_23 rfl)) (rIn 2 d_Re_orderClause_24 rfl))) (by decide) d_Re_orderClause_25)) (sS (p1 := 35) (sV (xVv lv_Re_102 (xA (rAi (rAi (rAi (rAr rA0 (rAn 0 d_Re_orderClause_28 rfl)) (rIn 1 d_Re_orderClause_29 rfl)) (rI d_Re_orderClause_30 rfl)) (rI d_Re_orderClause_31 rfl))) (by decide) d_Re_orderClause_32)) (sRz (xTb (xAnd (mm := 56) (xAnd (mm := 48) (xOr (mm := 40) (xC (rJ2 (tgt := 48) j_eq (rIn 2 d_Re_orderClause_35 rfl) (rI d_Re_orderClause_36 rfl) d_Re_orderClause_37 (by decide))) (xNot (xJ1 (tgt := 68) k_eq (xV lv_Re_114 (xA (rAi (rAr rA0 (rAn 0 d_Re_orderClause_40 rfl)) (rIn 1 d_Re_orderClause_41 rfl))) (by decide) d_Re_orderClause_42) d_Re_orderClause_45 (by decide)))) (xNot (xJ1 (tgt := 68) k_eq (xV lv_Re_117 (xA (rAi (rAr rA0 (rAn 0 d_Re_orderClause_48 rfl)) (rIn 1 d_Re_orderClause_49 rfl))) (by decide) d_Re_orderClause_50) d_Re_orderClause_53 (by decide)))) (xNot (xJ1 (tgt := 68) k_eq (xV lv_Re_109 (xA (rAi (rAr rA0 (rAn 0 d_Re_orderClause_56 rfl)) (rIn 1 d_Re_orderClause_57 rfl))) (by decide) d_Re_orderClause_58) d_Re_orderClause_61 (by decide)))) (rGoE (p2 := 69) (rI d_Re_orderClause_64 rfl) d_Re_orderClause_65 (by decide)) (rI d_Re_orderClause_68 rfl)) d_Re_orderClause_69 rfl)))))))
theorem q_Re_maybeTest {d : Nat} (hd : 46 ≤ d) {B : Int → Int} {n : Nat} {o : Bool} {t l w : Nat} {μ : zMem} {k : Int} (hB : okB B n) (hk : 0 ≤ k ∧ k < 12) (h : PSt B n o t l w μ) (hl : l ≤ 50) (ht : t ≤ n) (hw : 85 ≤ w ∧ w ≤ 85 + 2 * l + NT (cT B n) t) : zSp d 0 0 y_Re_maybeTest zT0 [vr 321, vi k] μ zT0 (fun r μ' => (∀ t1, pMT o (cT B n) (vT B n) t l w = (t1, none) → r = some (vi 0) ∧ μ' 321 3 = (ps B n t1 : Int) ∧ FR μ μ') ∧ ∀ t1 l1 m c, pMT o (cT B n) (vT B n) t l w = (t1, some (l1, m, c)) → r = some (vi 1) ∧ PSt B n o t1 l1 (w + c.length) μ' ∧ Seg (μ' 323) w c ∧ (μ' 323 (1 + k * 7 + 5) = w ∧ μ' 323 (1 + k * 7 + 6) = ((w + c.length : Nat) : Int)) ∧ (∀ i : Int, i < w → i ≠ 1 + k * 7 + 5 → i ≠ 1 + k * 7 + 6 → μ' 323 i = μ 323 i) ∧ FR μ μ') := by
  have hwd := RD_word hB h.1 (show 2 ≤ 7 ∧ 7 < 13 by decide)
  have hkw : kwF 7 (cT B n t) = if cT B n t = 5 then 0 else -1 := rfl
  have hpp := RD_p h.1
  have hB1 := hB.1
  refine zSp.ss [vr 321, vi k] rfl (w_Re_maybeTest (Nat.le_trans (by decide) hd)) rfl rfl ?_
  (try simp only [zit_e, Bool.and_eq_true, Bool.or_eq_true, Bool.not_eq_true', Bool.and_eq_false_iff, Bool.or_eq_false_iff, Bool.not_eq_false', zbe, zdt, zdf, zb2_p, zbp_0, zbp_1, zbp_inj, zbp_01, Bool.true_eq_false, Bool.false_eq_true, true_and, and_true, Decidable.not_not, Classical.not_not, implies_true, List.nil_append, List.cons_append, List.append_assoc, Option.some.injEq, Sum.inl.injEq, zSw_c, zSw_n]); (try simp only [zit_e, Bool.and_eq_true, Bool.or_eq_true, Bool.not_eq_true', Bool.and_eq_false_iff, Bool.or_eq_false_iff, Bool.not_eq_false', zbe, zdt, zdf, zb2_p, zbp_0, zbp_1, zbp_inj, zbp_01, Bool.true_eq_false, Bool.false_eq_true, true_and, and_true, Decidable.not_not, Classical.not_not, implies_true, List.nil_append, List.cons_append, List.append_assoc, Option.some.injEq, Sum.inl.injEq, zSw_c, zSw_n, zc_321, f_Re_isWord, g_Re_isWord]); (try simp only [zi_cs, zi_c0, zii_cs, zii_c0, zl_cs, zl_c0, zll_cs, zll_c0, zr_cs, zr_c0, zrr_cs, zrr_c0, zxs_cs, zxs_c0, zxx_cs, zxx_c0, zfree_c0, zfree_c1, zfree_cs, zfree_cz, zlong_i, zlong_r, zlong_x, zset_0, zset_s, true_and, and_true, Option.some.injEq, Sum.inl.injEq, Sum.inr.injEq, zb2_p, zbp_0, zbp_1, zbp_inj, zbp_01, Nat.zero_add, Nat.reduceAdd, implies_true, List.nil_append, List.cons_append, List.append_assoc, Int.not_lt, Int.not_le, Decidable.not_not, Int.zero_add, Int.reduceLE, Int.reduceLT, Int.reduceEq, Int.reduceNe, Int.reduceAdd, Int.reduceSub, Int.reduceMul, Int.reduceNeg, Int.reduceToNat, Nat.reduceMul, Nat.reduceLT, Nat.reduceEqDiff, and_self, ite_true, ite_false, zx1, zx2, zRecv, List.length_cons, List.length_nil, ne_eq, not_true_eq_false, not_false_eq_true, true_or, or_true, or_false, false_or, and_false, false_and, zf01, zf10, reduceCtorEq, zSw_c, zSw_n, zm_r, zit_T, zit_F, false_implies, true_implies, zc_321, f_Re_isWord, g_Re_isWord])
  done

