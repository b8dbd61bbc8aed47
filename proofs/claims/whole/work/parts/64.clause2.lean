/-! the reader's clauses -/
theorem mk_w {d : Nat} (hd : 3 ≤ d) {B : Int → Int} {n : Nat} {o : Bool} {t l w : Nat} {μ : zMem} {k q v : Int} {K : zRo} (h : PSt B n o t l w μ) (hc : 0 ≤ k ∧ k < 12) (hq : 0 ≤ q ∧ q < 7) (hk : ∀ μ', PSt B n o t l w μ' → FR μ μ' → μ' 323 (1 + k * 7 + q) = v → (∀ i : Int, i ≠ 1 + k * 7 + q → μ' 323 i = μ 323 i) → K none μ') : zCw d y_Re_mark [vr 321, vi k, vi q, vi v] μ K :=
  zCw.use (q_Re_mark (d := 2) (by decide) hc hq) hd (fun q μ' e => by
    obtain ⟨rfl, rfl⟩ := e
    refine hk _ ⟨RD_c h.1 (zm_off 322 (by decide)) (fun j hj => ?_), ?_, ?_, ?_⟩ ⟨zfc.rf.zm (by decide), ?_, ?_⟩ zm_s (fun i hi => zm_j hi)
    · rw [zm_off 321 (by decide)]
    · rw [zm_off 321 (by decide)]
      exact h.2.1
    · rw [zm_off 321 (by decide)]
      exact h.2.2.1
    · rw [zm_off 321 (by decide)]
      exact h.2.2.2
    · rw [zm_off 321 (by decide)]
    · rw [zm_off 321 (by decide)])
/-- a row of the program's head -/
def hd_in (k i : Int) : Prop := 1 + k * 7 ≤ i ∧ i < 8 + k * 7
/-- behind a parse of a part of a clause -/
def RQ {α : Type} (R : Nat × Option α) (bad : Nat → zMem → Prop) (good : Nat → α → zMem → Prop) : zRo := fun r μ' => (∀ t1, R = (t1, none) → r = some (vi 0) ∧ bad t1 μ') ∧ ∀ t1 a, R = (t1, some a) → r = some (vi 1) ∧ good t1 a μ'
theorem RQ_n {α : Type} {R : Nat × Option α} {bad : Nat → zMem → Prop} {good : Nat → α → zMem → Prop} {t : Nat} {μ' : zMem} {x : Int} (h : R = (t, none)) (h1 : x = 0) (h2 : bad t μ') : RQ R bad good (some (vi x)) μ' := by
  refine ⟨fun t1 e => ?_, fun t1 a e => ?_⟩
  · rw [h] at e
    cases e
    exact ⟨by rw [h1], h2⟩
  · rw [h] at e
    cases e
theorem RQ_s {α : Type} {R : Nat × Option α} {bad : Nat → zMem → Prop} {good : Nat → α → zMem → Prop} {t : Nat} {a : α} {μ' : zMem} {x : Int} (h : R = (t, some a)) (h1 : x = 1) (h2 : good t a μ') : RQ R bad good (some (vi x)) μ' := by
  refine ⟨fun t1 e => ?_, fun t1 a e => ?_⟩
  · rw [h] at e
    cases e
  · rw [h] at e
    cases e
    exact ⟨by rw [h1], h2⟩
def FB (B : Int → Int) (n : Nat) (μ : zMem) (t : Nat) (μ' : zMem) : Prop := μ' 321 3 = (ps B n t : Int) ∧ FR μ μ'
def GT (B : Int → Int) (n : Nat) (o : Bool) (w : Nat) (k : Int) (μ : zMem) (t1 : Nat) (a : Nat × Option Mn × List Int) (μ' : zMem) : Prop := PSt B n o t1 a.1 (w + a.2.2.length) μ' ∧ Seg (μ' 323) w a.2.2 ∧ (μ' 323 (1 + k * 7 + 5) = w ∧ μ' 323 (1 + k * 7 + 6) = ((w + a.2.2.length : Nat) : Int)) ∧ (∀ i : Int, i < w → i ≠ 1 + k * 7 + 5 → i ≠ 1 + k * 7 + 6 → μ' 323 i = μ 323 i) ∧ FR μ μ'
def GM (B : Int → Int) (n : Nat) (o : Bool) (l w : Nat) (k : Int) (μ : zMem) (t1 : Nat) (a : Int) (μ' : zMem) : Prop := PSt B n o t1 l w μ' ∧ μ' 323 (1 + k * 7 + 1) = a ∧ (∀ i : Int, i ≠ 1 + k * 7 + 1 → μ' 323 i = μ 323 i) ∧ FR μ μ'
def G3 (B : Int → Int) (n : Nat) (w : Nat) (k : Int) (μ : zMem) (t1 : Nat) (a : Nat × (Nat × Nat) × (Mn × Mn × Mn) × List Int) (μ' : zMem) : Prop := PSt B n true t1 a.1 (w + a.2.2.2.length) μ' ∧ Seg (μ' 323) w a.2.2.2 ∧ (μ' 323 (1 + k * 7 + 2) = w ∧ μ' 323 (1 + k * 7 + 3) = a.2.1.1 ∧ μ' 323 (1 + k * 7 + 4) = a.2.1.2) ∧ (∀ i : Int, i < w → (i < 1 + k * 7 + 2 ∨ 1 + k * 7 + 4 < i) → μ' 323 i = μ 323 i) ∧ FR μ μ'
/-- a clause's row in the program's head -/
def Hd (o : Bool) (p : Int → Int) (k : Int) (cl : Cls) : Prop := p (1 + k * 7) = cl.1 ∧ (o = true → p (1 + k * 7 + 1) = cl.2.1) ∧ (¬ (o = true ∧ cl.1 = 2) → p (1 + k * 7 + 2) = cl.2.2.1.1 ∧ p (1 + k * 7 + 3) = cl.2.2.1.2.1) ∧ (o = true → ¬ cl.1 = 2 → p (1 + k * 7 + 4) = cl.2.2.1.2.2.1) ∧ p (1 + k * 7 + 5) = cl.2.2.1.2.2.2.1 ∧ p (1 + k * 7 + 6) = cl.2.2.1.2.2.2.2
def GC (B : Int → Int) (n : Nat) (o : Bool) (w : Nat) (k : Int) (μ : zMem) (t1 : Nat) (a : Nat × Cls × List Int) (μ' : zMem) : Prop := PSt B n o t1 a.1 (w + a.2.2.length) μ' ∧ Seg (μ' 323) w a.2.2 ∧ Hd o (μ' 323) k a.2.1 ∧ (∀ i : Int, i < w → ¬ hd_in k i → μ' 323 i = μ 323 i) ∧ FR μ μ'
theorem m_Re_mark : Cond.instanceMethod y_Re_mark.1 ∈ zTb ∧ Cond.selects y_Re_mark.1.cls y_Re_mark.1 y_Re_mark.1 ∈ zTb ∧ Cond.initialized y_Re_mark.1.cls ∈ zTb ∧ Cond.code y_Re_mark.1 y_Re_mark.2.1 y_Re_mark.2.2.1 y_Re_mark.2.2.2 ∈ zTb ∧ (y_Re_mark.1.cls ≠ "java/lang/invoke/MethodHandle" ∧ y_Re_mark.1.cls ≠ "java/lang/invoke/VarHandle" ∧ (parseMethodDescriptor y_Re_mark.1.desc).map (fun d => d.parameters.length) = some 3) ∧ y_Re_mark.2.2.1 ≤ 20 :=
  ⟨(zTb_in 814 (by decide +kernel) (by decide +kernel)), (List.mem_filter.mpr ⟨List.mem_append_left _ (by decide +kernel), by decide +kernel⟩), (zTb_in 143 (by decide +kernel) (by decide +kernel)), (zTb_in 815 (by decide +kernel) (by decide +kernel)), by decide +kernel, by decide +kernel⟩
theorem lv_Re_96 : zLv "DebtDoors$Reader" 96 y_Re_mark 3 6 := ⟨⟨(zTb_in 812 (by decide +kernel) (by decide +kernel)), m_Re_mark.1, m_Re_mark.2.1, m_Re_mark.2.2⟩, _, rfl, rfl⟩
def y_Re_maybeTest : zMt := (⟨"DebtDoors$Reader", "maybeTest", "(I)Z"⟩, prog_8_method_17_code, 2, some .boolean)
theorem d_Re_maybeTest_0 : decode prog_8_method_17_code 0 = .ok (.aload_n 0, 1) := by decide +kernel
theorem d_Re_maybeTest_1 : decode prog_8_method_17_code 1 = .ok (.iload_n 1, 1) := by decide +kernel
theorem d_Re_maybeTest_2 : decode prog_8_method_17_code 2 = .ok (.iconst 5, 1) := by decide +kernel
theorem d_Re_maybeTest_3 : decode prog_8_method_17_code 3 = .ok (.aload_n 0, 1) := by decide +kernel
theorem d_Re_maybeTest_4 : decode prog_8_method_17_code 4 = .ok (.getfield 29, 3) := by decide +kernel
theorem d_Re_maybeTest_7 : decode prog_8_method_17_code 7 = .ok (.invokevirtual 96, 3) := by decide +kernel
theorem d_Re_maybeTest_10 : decode prog_8_method_17_code 10 = .ok (.aload_n 0, 1) := by decide +kernel
theorem d_Re_maybeTest_11 : decode prog_8_method_17_code 11 = .ok (.ldc 122, 2) := by decide +kernel
theorem d_Re_maybeTest_13 : decode prog_8_method_17_code 13 = .ok (.invokevirtual 83, 3) := by decide +kernel
theorem d_Re_maybeTest_16 : decode prog_8_method_17_code 16 = .ok (.ifCond .eq 17, 3) := by decide +kernel
theorem d_Re_maybeTest_19 : decode prog_8_method_17_code 19 = .ok (.aload_n 0, 1) := by decide +kernel
theorem d_Re_maybeTest_20 : decode prog_8_method_17_code 20 = .ok (.invokevirtual 38, 3) := by decide +kernel
theorem d_Re_maybeTest_23 : decode prog_8_method_17_code 23 = .ok (.aload_n 0, 1) := by decide +kernel
theorem d_Re_maybeTest_24 : decode prog_8_method_17_code 24 = .ok (.iconst 0, 1) := by decide +kernel
theorem d_Re_maybeTest_25 : decode prog_8_method_17_code 25 = .ok (.invokevirtual 124, 3) := by decide +kernel
theorem d_Re_maybeTest_28 : decode prog_8_method_17_code 28 = .ok (.ifCond .ne 5, 3) := by decide +kernel
theorem d_Re_maybeTest_31 : decode prog_8_method_17_code 31 = .ok (.iconst 0, 1) := by decide +kernel
theorem d_Re_maybeTest_32 : decode prog_8_method_17_code 32 = .ok (.ireturn, 1) := by decide +kernel
theorem d_Re_maybeTest_33 : decode prog_8_method_17_code 33 = .ok (.aload_n 0, 1) := by decide +kernel
theorem d_Re_maybeTest_34 : decode prog_8_method_17_code 34 = .ok (.iload_n 1, 1) := by decide +kernel
theorem d_Re_maybeTest_35 : decode prog_8_method_17_code 35 = .ok (.bipush 6, 2) := by decide +kernel
theorem d_Re_maybeTest_37 : decode prog_8_method_17_code 37 = .ok (.aload_n 0, 1) := by decide +kernel
theorem d_Re_maybeTest_38 : decode prog_8_method_17_code 38 = .ok (.getfield 29, 3) := by decide +kernel
theorem d_Re_maybeTest_41 : decode prog_8_method_17_code 41 = .ok (.invokevirtual 96, 3) := by decide +kernel
theorem d_Re_maybeTest_44 : decode prog_8_method_17_code 44 = .ok (.iconst 1, 1) := by decide +kernel
theorem d_Re_maybeTest_45 : decode prog_8_method_17_code 45 = .ok (.ireturn, 1) := by decide +kernel
def w_Re_maybeTest {d : Nat} (hd : 10 ≤ d) := (show SS ("DebtDoors$Reader", prog_8_method_17_code, 2) (some .boolean) d 0 0 0 0 _ from (sS (p1 := 10) (sV (xVv lv_Re_96 (xA (rAi (rAi (rAi (rAr rA0 (rAn 0 d_Re_maybeTest_0 rfl)) (rIn 1 d_Re_maybeTest_1 rfl)) (rI d_Re_maybeTest_2 rfl)) (rF 5 fl_Re_29 nk_6_5 (rAn 0 d_Re_maybeTest_3 rfl) d_Re_maybeTest_4 rfl))) (by decide) d_Re_maybeTest_7)) (sS (p1 := 33) (sIf (pn := 33) (tt := 19) (xC (rNot (rJ1 (tgt := 33) k_eq (rV p_Re_isWord (Nat.le_trans (Nat.le_of_ble_eq_true rfl) hd) lv_Re_83 (rAs (rAr rA0 (rAn 0 d_Re_maybeTest_10 rfl)) (rTx (i := 5) (by decide) rfl rfl d_Re_maybeTest_11)) (by decide) d_Re_maybeTest_13) d_Re_maybeTest_16 (by decide)))) (sS (p1 := 23) (sV (xVv lv_Re_38 (xA (rAr rA0 (rAn 0 d_Re_maybeTest_19 rfl))) (by decide) d_Re_maybeTest_20)) (sIf (pn := 33) (tt := 31) (xNot (xJ1 (tgt := 33) k_ne (xV lv_Re_124 (xA (rAi (rAr rA0 (rAn 0 d_Re_maybeTest_23 rfl)) (rI d_Re_maybeTest_24 rfl))) (by decide) d_Re_maybeTest_25) d_Re_maybeTest_28 (by decide))) (sRz (xE (rI d_Re_maybeTest_31 rfl)) d_Re_maybeTest_32 rfl)))) (sS (p1 := 44) (sV (xVv lv_Re_96 (xA (rAi (rAi (rAi (rAr rA0 (rAn 0 d_Re_maybeTest_33 rfl)) (rIn 1 d_Re_maybeTest_34 rfl)) (rB d_Re_maybeTest_35 rfl)) (rF 5 fl_Re_29 nk_6_5 (rAn 0 d_Re_maybeTest_37 rfl) d_Re_maybeTest_38 rfl))) (by decide) d_Re_maybeTest_41)) (sRz (xE (rI d_Re_maybeTest_44 rfl)) d_Re_maybeTest_45 rfl)))))
def y_Re_maybeTimes : zMt := (⟨"DebtDoors$Reader", "maybeTimes", "(I)Z"⟩, prog_8_method_16_code, 2, some .boolean)
theorem d_Re_maybeTimes_0 : decode prog_8_method_16_code 0 = .ok (.aload_n 0, 1) := by decide +kernel
theorem d_Re_maybeTimes_1 : decode prog_8_method_16_code 1 = .ok (.ldc 120, 2) := by decide +kernel
theorem d_Re_maybeTimes_3 : decode prog_8_method_16_code 3 = .ok (.invokevirtual 83, 3) := by decide +kernel
theorem d_Re_maybeTimes_6 : decode prog_8_method_16_code 6 = .ok (.ifCond .ne 5, 3) := by decide +kernel
theorem d_Re_maybeTimes_9 : decode prog_8_method_16_code 9 = .ok (.iconst 1, 1) := by decide +kernel
theorem d_Re_maybeTimes_10 : decode prog_8_method_16_code 10 = .ok (.ireturn, 1) := by decide +kernel
theorem d_Re_maybeTimes_11 : decode prog_8_method_16_code 11 = .ok (.aload_n 0, 1) := by decide +kernel
theorem d_Re_maybeTimes_12 : decode prog_8_method_16_code 12 = .ok (.invokevirtual 38, 3) := by decide +kernel
theorem d_Re_maybeTimes_15 : decode prog_8_method_16_code 15 = .ok (.aload_n 0, 1) := by decide +kernel
theorem d_Re_maybeTimes_16 : decode prog_8_method_16_code 16 = .ok (.getfield 51, 3) := by decide +kernel
theorem d_Re_maybeTimes_19 : decode prog_8_method_16_code 19 = .ok (.iconst 2, 1) := by decide +kernel
theorem d_Re_maybeTimes_20 : decode prog_8_method_16_code 20 = .ok (.if_icmp .ne 20, 3) := by decide +kernel
theorem d_Re_maybeTimes_23 : decode prog_8_method_16_code 23 = .ok (.aload_n 0, 1) := by decide +kernel
theorem d_Re_maybeTimes_24 : decode prog_8_method_16_code 24 = .ok (.getfield 61, 3) := by decide +kernel
theorem d_Re_maybeTimes_27 : decode prog_8_method_16_code 27 = .ok (.iconst 1, 1) := by decide +kernel
theorem d_Re_maybeTimes_28 : decode prog_8_method_16_code 28 = .ok (.if_icmp .lt 12, 3) := by decide +kernel
theorem d_Re_maybeTimes_31 : decode prog_8_method_16_code 31 = .ok (.aload_n 0, 1) := by decide +kernel
theorem d_Re_maybeTimes_32 : decode prog_8_method_16_code 32 = .ok (.getfield 61, 3) := by decide +kernel
theorem d_Re_maybeTimes_35 : decode prog_8_method_16_code 35 = .ok (.bipush 20, 2) := by decide +kernel
theorem d_Re_maybeTimes_37 : decode prog_8_method_16_code 37 = .ok (.if_icmp .le 8, 3) := by decide +kernel
theorem d_Re_maybeTimes_40 : decode prog_8_method_16_code 40 = .ok (.aload_n 0, 1) := by decide +kernel
theorem d_Re_maybeTimes_41 : decode prog_8_method_16_code 41 = .ok (.invokevirtual 54, 3) := by decide +kernel
theorem d_Re_maybeTimes_44 : decode prog_8_method_16_code 44 = .ok (.ireturn, 1) := by decide +kernel
theorem d_Re_maybeTimes_45 : decode prog_8_method_16_code 45 = .ok (.aload_n 0, 1) := by decide +kernel
theorem d_Re_maybeTimes_46 : decode prog_8_method_16_code 46 = .ok (.iload_n 1, 1) := by decide +kernel
theorem d_Re_maybeTimes_47 : decode prog_8_method_16_code 47 = .ok (.iconst 1, 1) := by decide +kernel
theorem d_Re_maybeTimes_48 : decode prog_8_method_16_code 48 = .ok (.aload_n 0, 1) := by decide +kernel
theorem d_Re_maybeTimes_49 : decode prog_8_method_16_code 49 = .ok (.getfield 61, 3) := by decide +kernel
theorem d_Re_maybeTimes_52 : decode prog_8_method_16_code 52 = .ok (.invokevirtual 96, 3) := by decide +kernel
theorem d_Re_maybeTimes_55 : decode prog_8_method_16_code 55 = .ok (.aload_n 0, 1) := by decide +kernel
theorem d_Re_maybeTimes_56 : decode prog_8_method_16_code 56 = .ok (.invokevirtual 38, 3) := by decide +kernel
theorem d_Re_maybeTimes_59 : decode prog_8_method_16_code 59 = .ok (.iconst 1, 1) := by decide +kernel
theorem d_Re_maybeTimes_60 : decode prog_8_method_16_code 60 = .ok (.ireturn, 1) := by decide +kernel
def w_Re_maybeTimes {d : Nat} (hd : 10 ≤ d) := (show SS ("DebtDoors$Reader", prog_8_method_16_code, 2) (some .boolean) d 0 0 0 0 _ from (sS (p1 := 11) (sIf (pn := 11) (tt := 9) (xC (rNot (rJ1 (tgt := 11) k_ne (rV p_Re_isWord (Nat.le_trans (Nat.le_of_ble_eq_true rfl) hd) lv_Re_83 (rAs (rAr rA0 (rAn 0 d_Re_maybeTimes_0 rfl)) (rTx (i := 4) (by decide) rfl rfl d_Re_maybeTimes_1)) (by decide) d_Re_maybeTimes_3) d_Re_maybeTimes_6 (by decide)))) (sRz (xE (rI d_Re_maybeTimes_9 rfl)) d_Re_maybeTimes_10 rfl)) (sS (p1 := 15) (sV (xVv lv_Re_38 (xA (rAr rA0 (rAn 0 d_Re_maybeTimes_11 rfl))) (by decide) d_Re_maybeTimes_12)) (sS (p1 := 45) (sIf (pn := 45) (tt := 40) (xC (rOr (mm := 31) (rOr (mm := 23) (rJ2 (tgt := 40) j_ne (rF 7 fl_Re_51 nk_6_7 (rAn 0 d_Re_maybeTimes_15 rfl) d_Re_maybeTimes_16 rfl) (rI d_Re_maybeTimes_19 rfl) d_Re_maybeTimes_20 (by decide)) (rJ2 (tgt := 40) j_lt (rF 10 fl_Re_61 nk_6_10 (rAn 0 d_Re_maybeTimes_23 rfl) d_Re_maybeTimes_24 rfl) (rI d_Re_maybeTimes_27 rfl) d_Re_maybeTimes_28 (by decide))) (rNot (rJ2 (tgt := 45) j_le (rF 10 fl_Re_61 nk_6_10 (rAn 0 d_Re_maybeTimes_31 rfl) d_Re_maybeTimes_32 rfl) (rB d_Re_maybeTimes_35 rfl) d_Re_maybeTimes_37 (by decide))))) (sRz (xV lv_Re_54 (xA (rAr rA0 (rAn 0 d_Re_maybeTimes_40 rfl))) (by decide) d_Re_maybeTimes_41) d_Re_maybeTimes_44 rfl)) (sS (p1 := 55) (sV (xVv lv_Re_96 (xA (rAi (rAi (rAi (rAr rA0 (rAn 0 d_Re_maybeTimes_45 rfl)) (rIn 1 d_Re_maybeTimes_46 rfl)) (rI d_Re_maybeTimes_47 rfl)) (rF 10 fl_Re_61 nk_6_10 (rAn 0 d_Re_maybeTimes_48 rfl) d_Re_maybeTimes_49 rfl))) (by decide) d_Re_maybeTimes_52)) (sS (p1 := 59) (sV (xVv lv_Re_38 (xA (rAr rA0 (rAn 0 d_Re_maybeTimes_55 rfl))) (by decide) d_Re_maybeTimes_56)) (sRz (xE (rI d_Re_maybeTimes_59 rfl)) d_Re_maybeTimes_60 rfl)))))))
theorem m_Re_take : Cond.instanceMethod y_Re_take.1 ∈ zTb ∧ Cond.selects y_Re_take.1.cls y_Re_take.1 y_Re_take.1 ∈ zTb ∧ Cond.initialized y_Re_take.1.cls ∈ zTb ∧ Cond.code y_Re_take.1 y_Re_take.2.1 y_Re_take.2.2.1 y_Re_take.2.2.2 ∈ zTb ∧ (y_Re_take.1.cls ≠ "java/lang/invoke/MethodHandle" ∧ y_Re_take.1.cls ≠ "java/lang/invoke/VarHandle" ∧ (parseMethodDescriptor y_Re_take.1.desc).map (fun d => d.parameters.length) = some 1) ∧ y_Re_take.2.2.1 ≤ 20 :=
  ⟨(zTb_in 859 (by decide +kernel) (by decide +kernel)), (List.mem_filter.mpr ⟨List.mem_append_left _ (by decide +kernel), by decide +kernel⟩), (zTb_in 143 (by decide +kernel) (by decide +kernel)), (zTb_in 860 (by decide +kernel) (by decide +kernel)), by decide +kernel, by decide +kernel⟩
theorem lv_Re_115 : zLv "DebtDoors$Reader" 115 y_Re_take 1 6 := ⟨⟨(zTb_in 857 (by decide +kernel) (by decide +kernel)), m_Re_take.1, m_Re_take.2.1, m_Re_take.2.2⟩, _, rfl, rfl⟩
def y_Re_threeSums : zMt := (⟨"DebtDoors$Reader", "threeSums", "(I)Z"⟩, prog_8_method_15_code, 2, some .boolean)
theorem d_Re_threeSums_0 : decode prog_8_method_15_code 0 = .ok (.aload_n 0, 1) := by decide +kernel
theorem d_Re_threeSums_1 : decode prog_8_method_15_code 1 = .ok (.iload_n 1, 1) := by decide +kernel
theorem d_Re_threeSums_2 : decode prog_8_method_15_code 2 = .ok (.iconst 2, 1) := by decide +kernel
theorem d_Re_threeSums_3 : decode prog_8_method_15_code 3 = .ok (.aload_n 0, 1) := by decide +kernel
theorem d_Re_threeSums_4 : decode prog_8_method_15_code 4 = .ok (.getfield 29, 3) := by decide +kernel
theorem d_Re_threeSums_7 : decode prog_8_method_15_code 7 = .ok (.invokevirtual 96, 3) := by decide +kernel
theorem d_Re_threeSums_10 : decode prog_8_method_15_code 10 = .ok (.aload_n 0, 1) := by decide +kernel
theorem d_Re_threeSums_11 : decode prog_8_method_15_code 11 = .ok (.iconst 0, 1) := by decide +kernel
theorem d_Re_threeSums_12 : decode prog_8_method_15_code 12 = .ok (.invokevirtual 100, 3) := by decide +kernel
theorem d_Re_threeSums_15 : decode prog_8_method_15_code 15 = .ok (.ifCond .eq 12, 3) := by decide +kernel
theorem d_Re_threeSums_18 : decode prog_8_method_15_code 18 = .ok (.aload_n 0, 1) := by decide +kernel
theorem d_Re_threeSums_19 : decode prog_8_method_15_code 19 = .ok (.ldc 114, 2) := by decide +kernel
theorem d_Re_threeSums_21 : decode prog_8_method_15_code 21 = .ok (.invokevirtual 115, 3) := by decide +kernel
theorem d_Re_threeSums_24 : decode prog_8_method_15_code 24 = .ok (.ifCond .ne 5, 3) := by decide +kernel
theorem d_Re_threeSums_27 : decode prog_8_method_15_code 27 = .ok (.iconst 0, 1) := by decide +kernel
theorem d_Re_threeSums_28 : decode prog_8_method_15_code 28 = .ok (.ireturn, 1) := by decide +kernel
theorem d_Re_threeSums_29 : decode prog_8_method_15_code 29 = .ok (.aload_n 0, 1) := by decide +kernel
theorem d_Re_threeSums_30 : decode prog_8_method_15_code 30 = .ok (.iload_n 1, 1) := by decide +kernel
theorem d_Re_threeSums_31 : decode prog_8_method_15_code 31 = .ok (.iconst 3, 1) := by decide +kernel
theorem d_Re_threeSums_32 : decode prog_8_method_15_code 32 = .ok (.aload_n 0, 1) := by decide +kernel
theorem d_Re_threeSums_33 : decode prog_8_method_15_code 33 = .ok (.getfield 29, 3) := by decide +kernel
theorem d_Re_threeSums_36 : decode prog_8_method_15_code 36 = .ok (.invokevirtual 96, 3) := by decide +kernel
theorem d_Re_threeSums_39 : decode prog_8_method_15_code 39 = .ok (.aload_n 0, 1) := by decide +kernel
theorem d_Re_threeSums_40 : decode prog_8_method_15_code 40 = .ok (.iconst 0, 1) := by decide +kernel
theorem d_Re_threeSums_41 : decode prog_8_method_15_code 41 = .ok (.invokevirtual 100, 3) := by decide +kernel
theorem d_Re_threeSums_44 : decode prog_8_method_15_code 44 = .ok (.ifCond .eq 12, 3) := by decide +kernel
theorem d_Re_threeSums_47 : decode prog_8_method_15_code 47 = .ok (.aload_n 0, 1) := by decide +kernel
theorem d_Re_threeSums_48 : decode prog_8_method_15_code 48 = .ok (.ldc 118, 2) := by decide +kernel
theorem d_Re_threeSums_50 : decode prog_8_method_15_code 50 = .ok (.invokevirtual 115, 3) := by decide +kernel
theorem d_Re_threeSums_53 : decode prog_8_method_15_code 53 = .ok (.ifCond .ne 5, 3) := by decide +kernel
theorem d_Re_threeSums_56 : decode prog_8_method_15_code 56 = .ok (.iconst 0, 1) := by decide +kernel
theorem d_Re_threeSums_57 : decode prog_8_method_15_code 57 = .ok (.ireturn, 1) := by decide +kernel
theorem d_Re_threeSums_58 : decode prog_8_method_15_code 58 = .ok (.aload_n 0, 1) := by decide +kernel
theorem d_Re_threeSums_59 : decode prog_8_method_15_code 59 = .ok (.iload_n 1, 1) := by decide +kernel
theorem d_Re_threeSums_60 : decode prog_8_method_15_code 60 = .ok (.iconst 4, 1) := by decide +kernel
theorem d_Re_threeSums_61 : decode prog_8_method_15_code 61 = .ok (.aload_n 0, 1) := by decide +kernel
theorem d_Re_threeSums_62 : decode prog_8_method_15_code 62 = .ok (.getfield 29, 3) := by decide +kernel
theorem d_Re_threeSums_65 : decode prog_8_method_15_code 65 = .ok (.invokevirtual 96, 3) := by decide +kernel
theorem d_Re_threeSums_68 : decode prog_8_method_15_code 68 = .ok (.aload_n 0, 1) := by decide +kernel
theorem d_Re_threeSums_69 : decode prog_8_method_15_code 69 = .ok (.iconst 0, 1) := by decide +kernel
theorem d_Re_threeSums_70 : decode prog_8_method_15_code 70 = .ok (.invokevirtual 100, 3) := by decide +kernel
theorem d_Re_threeSums_73 : decode prog_8_method_15_code 73 = .ok (.ireturn, 1) := by decide +kernel
def w_Re_threeSums {d : Nat} (hd : 1 ≤ d) := (show SS ("DebtDoors$Reader", prog_8_method_15_code, 2) (some .boolean) d 0 0 0 0 _ from (sS (p1 := 10) (sV (xVv lv_Re_96 (xA (rAi (rAi (rAi (rAr rA0 (rAn 0 d_Re_threeSums_0 rfl)) (rIn 1 d_Re_threeSums_1 rfl)) (rI d_Re_threeSums_2 rfl)) (rF 5 fl_Re_29 nk_6_5 (rAn 0 d_Re_threeSums_3 rfl) d_Re_threeSums_4 rfl))) (by decide) d_Re_threeSums_7)) (sS (p1 := 29) (sIf (pn := 29) (tt := 27) (xOr (mm := 18) (xNot (xNot (xJ1 (tgt := 27) k_eq (xV lv_Re_100 (xA (rAi (rAr rA0 (rAn 0 d_Re_threeSums_10 rfl)) (rI d_Re_threeSums_11 rfl))) (by decide) d_Re_threeSums_12) d_Re_threeSums_15 (by decide)))) (xNot (xJ1 (tgt := 29) k_ne (xV lv_Re_115 (xA (rAs (rAr rA0 (rAn 0 d_Re_threeSums_18 rfl)) (rTx (i := 2) (by decide) rfl rfl d_Re_threeSums_19))) (by decide) d_Re_threeSums_21) d_Re_threeSums_24 (by decide)))) (sRz (xE (rI d_Re_threeSums_27 rfl)) d_Re_threeSums_28 rfl)) (sS (p1 := 39) (sV (xVv lv_Re_96 (xA (rAi (rAi (rAi (rAr rA0 (rAn 0 d_Re_threeSums_29 rfl)) (rIn 1 d_Re_threeSums_30 rfl)) (rI d_Re_threeSums_31 rfl)) (rF 5 fl_Re_29 nk_6_5 (rAn 0 d_Re_threeSums_32 rfl) d_Re_threeSums_33 rfl))) (by decide) d_Re_threeSums_36)) (sS (p1 := 58) (sIf (pn := 58) (tt := 56) (xOr (mm := 47) (xNot (xNot (xJ1 (tgt := 56) k_eq (xV lv_Re_100 (xA (rAi (rAr rA0 (rAn 0 d_Re_threeSums_39 rfl)) (rI d_Re_threeSums_40 rfl))) (by decide) d_Re_threeSums_41) d_Re_threeSums_44 (by decide)))) (xNot (xJ1 (tgt := 58) k_ne (xV lv_Re_115 (xA (rAs (rAr rA0 (rAn 0 d_Re_threeSums_47 rfl)) (rTx (i := 3) (by decide) rfl rfl d_Re_threeSums_48))) (by decide) d_Re_threeSums_50) d_Re_threeSums_53 (by decide)))) (sRz (xE (rI d_Re_threeSums_56 rfl)) d_Re_threeSums_57 rfl)) (sS (p1 := 68) (sV (xVv lv_Re_96 (xA (rAi (rAi (rAi (rAr rA0 (rAn 0 d_Re_threeSums_58 rfl)) (rIn 1 d_Re_threeSums_59 rfl)) (rI d_Re_threeSums_60 rfl)) (rF 5 fl_Re_29 nk_6_5 (rAn 0 d_Re_threeSums_61 rfl) d_Re_threeSums_62 rfl))) (by decide) d_Re_threeSums_65)) (sRz (xV lv_Re_100 (xA (rAi (rAr rA0 (rAn 0 d_Re_threeSums_68 rfl)) (rI d_Re_threeSums_69 rfl))) (by decide) d_Re_threeSums_70) d_Re_threeSums_73 rfl)))))))
theorem m_Re_maybeTest : Cond.instanceMethod y_Re_maybeTest.1 ∈ zTb ∧ Cond.selects y_Re_maybeTest.1.cls y_Re_maybeTest.1 y_Re_maybeTest.1 ∈ zTb ∧ Cond.initialized y_Re_maybeTest.1.cls ∈ zTb ∧ Cond.code y_Re_maybeTest.1 y_Re_maybeTest.2.1 y_Re_maybeTest.2.2.1 y_Re_maybeTest.2.2.2 ∈ zTb ∧ (y_Re_maybeTest.1.cls ≠ "java/lang/invoke/MethodHandle" ∧ y_Re_maybeTest.1.cls ≠ "java/lang/invoke/VarHandle" ∧ (parseMethodDescriptor y_Re_maybeTest.1.desc).map (fun d => d.parameters.length) = some 1) ∧ y_Re_maybeTest.2.2.1 ≤ 20 :=
  ⟨(zTb_in 873 (by decide +kernel) (by decide +kernel)), (List.mem_filter.mpr ⟨List.mem_append_left _ (by decide +kernel), by decide +kernel⟩), (zTb_in 143 (by decide +kernel) (by decide +kernel)), (zTb_in 874 (by decide +kernel) (by decide +kernel)), by decide +kernel, by decide +kernel⟩
theorem lv_Re_103 : zLv "DebtDoors$Reader" 103 y_Re_maybeTest 1 6 := ⟨⟨(zTb_in 871 (by decide +kernel) (by decide +kernel)), m_Re_maybeTest.1, m_Re_maybeTest.2.1, m_Re_maybeTest.2.2⟩, _, rfl, rfl⟩
def y_Re_lawClause : zMt := (⟨"DebtDoors$Reader", "lawClause", "(I)Z"⟩, prog_8_method_13_code, 3, some .boolean)
theorem d_Re_lawClause_0 : decode prog_8_method_13_code 0 = .ok (.aload_n 0, 1) := by decide +kernel
theorem d_Re_lawClause_1 : decode prog_8_method_13_code 1 = .ok (.ldc 94, 2) := by decide +kernel
theorem d_Re_lawClause_3 : decode prog_8_method_13_code 3 = .ok (.invokevirtual 70, 3) := by decide +kernel
theorem d_Re_lawClause_6 : decode prog_8_method_13_code 6 = .ok (.istore_n 2, 1) := by decide +kernel
theorem d_Re_lawClause_7 : decode prog_8_method_13_code 7 = .ok (.iload_n 2, 1) := by decide +kernel
theorem d_Re_lawClause_8 : decode prog_8_method_13_code 8 = .ok (.iconst (-1), 1) := by decide +kernel
theorem d_Re_lawClause_9 : decode prog_8_method_13_code 9 = .ok (.if_icmp .ne 8, 3) := by decide +kernel
theorem d_Re_lawClause_12 : decode prog_8_method_13_code 12 = .ok (.aload_n 0, 1) := by decide +kernel
theorem d_Re_lawClause_13 : decode prog_8_method_13_code 13 = .ok (.invokevirtual 54, 3) := by decide +kernel
theorem d_Re_lawClause_16 : decode prog_8_method_13_code 16 = .ok (.ireturn, 1) := by decide +kernel
theorem d_Re_lawClause_17 : decode prog_8_method_13_code 17 = .ok (.aload_n 0, 1) := by decide +kernel
theorem d_Re_lawClause_18 : decode prog_8_method_13_code 18 = .ok (.invokevirtual 38, 3) := by decide +kernel
theorem d_Re_lawClause_21 : decode prog_8_method_13_code 21 = .ok (.aload_n 0, 1) := by decide +kernel
theorem d_Re_lawClause_22 : decode prog_8_method_13_code 22 = .ok (.iload_n 1, 1) := by decide +kernel
theorem d_Re_lawClause_23 : decode prog_8_method_13_code 23 = .ok (.iconst 0, 1) := by decide +kernel
theorem d_Re_lawClause_24 : decode prog_8_method_13_code 24 = .ok (.iload_n 2, 1) := by decide +kernel
theorem d_Re_lawClause_25 : decode prog_8_method_13_code 25 = .ok (.invokevirtual 96, 3) := by decide +kernel
theorem d_Re_lawClause_28 : decode prog_8_method_13_code 28 = .ok (.aload_n 0, 1) := by decide +kernel
theorem d_Re_lawClause_29 : decode prog_8_method_13_code 29 = .ok (.iload_n 1, 1) := by decide +kernel
theorem d_Re_lawClause_30 : decode prog_8_method_13_code 30 = .ok (.iconst 2, 1) := by decide +kernel
theorem d_Re_lawClause_31 : decode prog_8_method_13_code 31 = .ok (.aload_n 0, 1) := by decide +kernel
theorem d_Re_lawClause_32 : decode prog_8_method_13_code 32 = .ok (.getfield 29, 3) := by decide +kernel
theorem d_Re_lawClause_35 : decode prog_8_method_13_code 35 = .ok (.invokevirtual 96, 3) := by decide +kernel
theorem d_Re_lawClause_38 : decode prog_8_method_13_code 38 = .ok (.iload_n 2, 1) := by decide +kernel
theorem d_Re_lawClause_39 : decode prog_8_method_13_code 39 = .ok (.iconst 3, 1) := by decide +kernel
theorem d_Re_lawClause_40 : decode prog_8_method_13_code 40 = .ok (.if_icmp .eq 13, 3) := by decide +kernel
theorem d_Re_lawClause_43 : decode prog_8_method_13_code 43 = .ok (.aload_n 0, 1) := by decide +kernel
theorem d_Re_lawClause_44 : decode prog_8_method_13_code 44 = .ok (.iconst 0, 1) := by decide +kernel
theorem d_Re_lawClause_45 : decode prog_8_method_13_code 45 = .ok (.invokevirtual 100, 3) := by decide +kernel
theorem d_Re_lawClause_48 : decode prog_8_method_13_code 48 = .ok (.ifCond .ne 5, 3) := by decide +kernel
theorem d_Re_lawClause_51 : decode prog_8_method_13_code 51 = .ok (.iconst 0, 1) := by decide +kernel
theorem d_Re_lawClause_52 : decode prog_8_method_13_code 52 = .ok (.ireturn, 1) := by decide +kernel
theorem d_Re_lawClause_53 : decode prog_8_method_13_code 53 = .ok (.aload_n 0, 1) := by decide +kernel
theorem d_Re_lawClause_54 : decode prog_8_method_13_code 54 = .ok (.iload_n 1, 1) := by decide +kernel
theorem d_Re_lawClause_55 : decode prog_8_method_13_code 55 = .ok (.iconst 3, 1) := by decide +kernel
theorem d_Re_lawClause_56 : decode prog_8_method_13_code 56 = .ok (.aload_n 0, 1) := by decide +kernel
theorem d_Re_lawClause_57 : decode prog_8_method_13_code 57 = .ok (.getfield 29, 3) := by decide +kernel
theorem d_Re_lawClause_60 : decode prog_8_method_13_code 60 = .ok (.invokevirtual 96, 3) := by decide +kernel
theorem d_Re_lawClause_63 : decode prog_8_method_13_code 63 = .ok (.aload_n 0, 1) := by decide +kernel
theorem d_Re_lawClause_64 : decode prog_8_method_13_code 64 = .ok (.iload_n 1, 1) := by decide +kernel
theorem d_Re_lawClause_65 : decode prog_8_method_13_code 65 = .ok (.invokevirtual 103, 3) := by decide +kernel
theorem d_Re_lawClause_68 : decode prog_8_method_13_code 68 = .ok (.ireturn, 1) := by decide +kernel
def w_Re_lawClause {d : Nat} (hd : 9 ≤ d) := (show SS ("DebtDoors$Reader", prog_8_method_13_code, 3) (some .boolean) d 0 0 0 0 _ from (sS (p1 := 7) (sIn 2 (xE (rV p_Re_wordIn (Nat.le_trans (Nat.le_of_ble_eq_true rfl) hd) lv_Re_70 (rAs (rAr rA0 (rAn 0 d_Re_lawClause_0 rfl)) (rTx (i := 0) (by decide) rfl rfl d_Re_lawClause_1)) (by decide) d_Re_lawClause_3)) d_Re_lawClause_6 rfl (by decide)) (sS (p1 := 17) (sIf (pn := 17) (tt := 12) (xC (rNot (rJ2 (tgt := 17) j_ne (rIn 2 d_Re_lawClause_7 rfl) (rI d_Re_lawClause_8 rfl) d_Re_lawClause_9 (by decide)))) (sRz (xV lv_Re_54 (xA (rAr rA0 (rAn 0 d_Re_lawClause_12 rfl))) (by decide) d_Re_lawClause_13) d_Re_lawClause_16 rfl)) (sS (p1 := 21) (sV (xVv lv_Re_38 (xA (rAr rA0 (rAn 0 d_Re_lawClause_17 rfl))) (by decide) d_Re_lawClause_18)) (sS (p1 := 28) (sV (xVv lv_Re_96 (xA (rAi (rAi (rAi (rAr rA0 (rAn 0 d_Re_lawClause_21 rfl)) (rIn 1 d_Re_lawClause_22 rfl)) (rI d_Re_lawClause_23 rfl)) (rIn 2 d_Re_lawClause_24 rfl))) (by decide) d_Re_lawClause_25)) (sS (p1 := 38) (sV (xVv lv_Re_96 (xA (rAi (rAi (rAi (rAr rA0 (rAn 0 d_Re_lawClause_28 rfl)) (rIn 1 d_Re_lawClause_29 rfl)) (rI d_Re_lawClause_30 rfl)) (rF 5 fl_Re_29 nk_6_5 (rAn 0 d_Re_lawClause_31 rfl) d_Re_lawClause_32 rfl))) (by decide) d_Re_lawClause_35)) (sS (p1 := 53) (sIf (pn := 53) (tt := 51) (xAnd (mm := 43) (xC (rNot (rJ2 (tgt := 53) j_eq (rIn 2 d_Re_lawClause_38 rfl) (rI d_Re_lawClause_39 rfl) d_Re_lawClause_40 (by decide)))) (xNot (xJ1 (tgt := 53) k_ne (xV lv_Re_100 (xA (rAi (rAr rA0 (rAn 0 d_Re_lawClause_43 rfl)) (rI d_Re_lawClause_44 rfl))) (by decide) d_Re_lawClause_45) d_Re_lawClause_48 (by decide)))) (sRz (xE (rI d_Re_lawClause_51 rfl)) d_Re_lawClause_52 rfl)) (sS (p1 := 63) (sV (xVv lv_Re_96 (xA (rAi (rAi (rAi (rAr rA0 (rAn 0 d_Re_lawClause_53 rfl)) (rIn 1 d_Re_lawClause_54 rfl)) (rI d_Re_lawClause_55 rfl)) (rF 5 fl_Re_29 nk_6_5 (rAn 0 d_Re_lawClause_56 rfl) d_Re_lawClause_57 rfl))) (by decide) d_Re_lawClause_60)) (sRz (xV lv_Re_103 (xA (rAi (rAr rA0 (rAn 0 d_Re_lawClause_63 rfl)) (rIn 1 d_Re_lawClause_64 rfl))) (by decide) d_Re_lawClause_65) d_Re_lawClause_68 rfl)))))))))
theorem m_Re_threeSums : Cond.instanceMethod y_Re_threeSums.1 ∈ zTb ∧ Cond.selects y_Re_threeSums.1.cls y_Re_threeSums.1 y_Re_threeSums.1 ∈ zTb ∧ Cond.initialized y_Re_threeSums.1.cls ∈ zTb ∧ Cond.code y_Re_threeSums.1 y_Re_threeSums.2.1 y_Re_threeSums.2.2.1 y_Re_threeSums.2.2.2 ∈ zTb ∧ (y_Re_threeSums.1.cls ≠ "java/lang/invoke/MethodHandle" ∧ y_Re_threeSums.1.cls ≠ "java/lang/invoke/VarHandle" ∧ (parseMethodDescriptor y_Re_threeSums.1.desc).map (fun d => d.parameters.length) = some 1) ∧ y_Re_threeSums.2.2.1 ≤ 20 :=
  ⟨(zTb_in 820 (by decide +kernel) (by decide +kernel)), (List.mem_filter.mpr ⟨List.mem_append_left _ (by decide +kernel), by decide +kernel⟩), (zTb_in 143 (by decide +kernel) (by decide +kernel)), (zTb_in 821 (by decide +kernel) (by decide +kernel)), by decide +kernel, by decide +kernel⟩
theorem lv_Re_108 : zLv "DebtDoors$Reader" 108 y_Re_threeSums 1 6 := ⟨⟨(zTb_in 818 (by decide +kernel) (by decide +kernel)), m_Re_threeSums.1, m_Re_threeSums.2.1, m_Re_threeSums.2.2⟩, _, rfl, rfl⟩
theorem m_Re_maybeTimes : Cond.instanceMethod y_Re_maybeTimes.1 ∈ zTb ∧ Cond.selects y_Re_maybeTimes.1.cls y_Re_maybeTimes.1 y_Re_maybeTimes.1 ∈ zTb ∧ Cond.initialized y_Re_maybeTimes.1.cls ∈ zTb ∧ Cond.code y_Re_maybeTimes.1 y_Re_maybeTimes.2.1 y_Re_maybeTimes.2.2.1 y_Re_maybeTimes.2.2.2 ∈ zTb ∧ (y_Re_maybeTimes.1.cls ≠ "java/lang/invoke/MethodHandle" ∧ y_Re_maybeTimes.1.cls ≠ "java/lang/invoke/VarHandle" ∧ (parseMethodDescriptor y_Re_maybeTimes.1.desc).map (fun d => d.parameters.length) = some 1) ∧ y_Re_maybeTimes.2.2.1 ≤ 20 :=
  ⟨(zTb_in 868 (by decide +kernel) (by decide +kernel)), (List.mem_filter.mpr ⟨List.mem_append_left _ (by decide +kernel), by decide +kernel⟩), (zTb_in 143 (by decide +kernel) (by decide +kernel)), (zTb_in 869 (by decide +kernel) (by decide +kernel)), by decide +kernel, by decide +kernel⟩
theorem lv_Re_111 : zLv "DebtDoors$Reader" 111 y_Re_maybeTimes 1 6 := ⟨⟨(zTb_in 866 (by decide +kernel) (by decide +kernel)), m_Re_maybeTimes.1, m_Re_maybeTimes.2.1, m_Re_maybeTimes.2.2⟩, _, rfl, rfl⟩
def y_Re_orderClause : zMt := (⟨"DebtDoors$Reader", "orderClause", "(I)Z"⟩, prog_8_method_14_code, 3, some .boolean)
theorem d_Re_orderClause_0 : decode prog_8_method_14_code 0 = .ok (.aload_n 0, 1) := by decide +kernel
theorem d_Re_orderClause_1 : decode prog_8_method_14_code 1 = .ok (.ldc 106, 2) := by decide +kernel
theorem d_Re_orderClause_3 : decode prog_8_method_14_code 3 = .ok (.invokevirtual 70, 3) := by decide +kernel
theorem d_Re_orderClause_6 : decode prog_8_method_14_code 6 = .ok (.istore_n 2, 1) := by decide +kernel
theorem d_Re_orderClause_7 : decode prog_8_method_14_code 7 = .ok (.iload_n 2, 1) := by decide +kernel
theorem d_Re_orderClause_8 : decode prog_8_method_14_code 8 = .ok (.iconst (-1), 1) := by decide +kernel
theorem d_Re_orderClause_9 : decode prog_8_method_14_code 9 = .ok (.if_icmp .ne 8, 3) := by decide +kernel
theorem d_Re_orderClause_12 : decode prog_8_method_14_code 12 = .ok (.aload_n 0, 1) := by decide +kernel
theorem d_Re_orderClause_13 : decode prog_8_method_14_code 13 = .ok (.invokevirtual 54, 3) := by decide +kernel
theorem d_Re_orderClause_16 : decode prog_8_method_14_code 16 = .ok (.ireturn, 1) := by decide +kernel
theorem d_Re_orderClause_17 : decode prog_8_method_14_code 17 = .ok (.aload_n 0, 1) := by decide +kernel
theorem d_Re_orderClause_18 : decode prog_8_method_14_code 18 = .ok (.invokevirtual 38, 3) := by decide +kernel
theorem d_Re_orderClause_21 : decode prog_8_method_14_code 21 = .ok (.aload_n 0, 1) := by decide +kernel
theorem d_Re_orderClause_22 : decode prog_8_method_14_code 22 = .ok (.iload_n 1, 1) := by decide +kernel
theorem d_Re_orderClause_23 : decode prog_8_method_14_code 23 = .ok (.iconst 0, 1) := by decide +kernel
theorem d_Re_orderClause_24 : decode prog_8_method_14_code 24 = .ok (.iload_n 2, 1) := by decide +kernel
theorem d_Re_orderClause_25 : decode prog_8_method_14_code 25 = .ok (.invokevirtual 96, 3) := by decide +kernel
theorem d_Re_orderClause_28 : decode prog_8_method_14_code 28 = .ok (.aload_n 0, 1) := by decide +kernel
theorem d_Re_orderClause_29 : decode prog_8_method_14_code 29 = .ok (.iload_n 1, 1) := by decide +kernel
theorem d_Re_orderClause_30 : decode prog_8_method_14_code 30 = .ok (.iconst 1, 1) := by decide +kernel
theorem d_Re_orderClause_31 : decode prog_8_method_14_code 31 = .ok (.iconst 1, 1) := by decide +kernel
theorem d_Re_orderClause_32 : decode prog_8_method_14_code 32 = .ok (.invokevirtual 96, 3) := by decide +kernel
theorem d_Re_orderClause_35 : decode prog_8_method_14_code 35 = .ok (.iload_n 2, 1) := by decide +kernel
theorem d_Re_orderClause_36 : decode prog_8_method_14_code 36 = .ok (.iconst 2, 1) := by decide +kernel
theorem d_Re_orderClause_37 : decode prog_8_method_14_code 37 = .ok (.if_icmp .eq 11, 3) := by decide +kernel
theorem d_Re_orderClause_40 : decode prog_8_method_14_code 40 = .ok (.aload_n 0, 1) := by decide +kernel
theorem d_Re_orderClause_41 : decode prog_8_method_14_code 41 = .ok (.iload_n 1, 1) := by decide +kernel
theorem d_Re_orderClause_42 : decode prog_8_method_14_code 42 = .ok (.invokevirtual 108, 3) := by decide +kernel
theorem d_Re_orderClause_45 : decode prog_8_method_14_code 45 = .ok (.ifCond .eq 23, 3) := by decide +kernel
theorem d_Re_orderClause_48 : decode prog_8_method_14_code 48 = .ok (.aload_n 0, 1) := by decide +kernel
theorem d_Re_orderClause_49 : decode prog_8_method_14_code 49 = .ok (.iload_n 1, 1) := by decide +kernel
theorem d_Re_orderClause_50 : decode prog_8_method_14_code 50 = .ok (.invokevirtual 111, 3) := by decide +kernel
theorem d_Re_orderClause_53 : decode prog_8_method_14_code 53 = .ok (.ifCond .eq 15, 3) := by decide +kernel
theorem d_Re_orderClause_56 : decode prog_8_method_14_code 56 = .ok (.aload_n 0, 1) := by decide +kernel
theorem d_Re_orderClause_57 : decode prog_8_method_14_code 57 = .ok (.iload_n 1, 1) := by decide +kernel
theorem d_Re_orderClause_58 : decode prog_8_method_14_code 58 = .ok (.invokevirtual 103, 3) := by decide +kernel
theorem d_Re_orderClause_61 : decode prog_8_method_14_code 61 = .ok (.ifCond .eq 7, 3) := by decide +kernel
theorem d_Re_orderClause_64 : decode prog_8_method_14_code 64 = .ok (.iconst 1, 1) := by decide +kernel
theorem d_Re_orderClause_65 : decode prog_8_method_14_code 65 = .ok (.goto 4, 3) := by decide +kernel
theorem d_Re_orderClause_68 : decode prog_8_method_14_code 68 = .ok (.iconst 0, 1) := by decide +kernel
theorem d_Re_orderClause_69 : decode prog_8_method_14_code 69 = .ok (.ireturn, 1) := by decide +kernel
def w_Re_orderClause {d : Nat} (hd : 9 ≤ d) := (show SS ("DebtDoors$Reader", prog_8_method_14_code, 3) (some .boolean) d 0 0 0 0 _ from (sS (p1 := 7) (sIn 2 (xE (rV p_Re_wordIn (Nat.le_trans (Nat.le_of_ble_eq_true rfl) hd) lv_Re_70 (rAs (rAr rA0 (rAn 0 d_Re_orderClause_0 rfl)) (rTx (i := 1) (by decide) rfl rfl d_Re_orderClause_1)) (by decide) d_Re_orderClause_3)) d_Re_orderClause_6 rfl (by decide)) (sS (p1 := 17) (sIf (pn := 17) (tt := 12) (xC (rNot (rJ2 (tgt := 17) j_ne (rIn 2 d_Re_orderClause_7 rfl) (rI d_Re_orderClause_8 rfl) d_Re_orderClause_9 (by decide)))) (sRz (xV lv_Re_54 (xA (rAr rA0 (rAn 0 d_Re_orderClause_12 rfl))) (by decide) d_Re_orderClause_13) d_Re_orderClause_16 rfl)) (sS (p1 := 21) (sV (xVv lv_Re_38 (xA (rAr rA0 (rAn 0 d_Re_orderClause_17 rfl))) (by decide) d_Re_orderClause_18)) (sS (p1 := 28) (sV (xVv lv_Re_96 (xA (rAi (rAi (rAi (rAr rA0 (rAn 0 d_Re_orderClause_21 rfl)) (rIn 1 d_Re_orderClause_22 rfl)) (rI d_Re_orderClause_23 rfl)) (rIn 2 d_Re_orderClause_24 rfl))) (by decide) d_Re_orderClause_25)) (sS (p1 := 35) (sV (xVv lv_Re_96 (xA (rAi (rAi (rAi (rAr rA0 (rAn 0 d_Re_orderClause_28 rfl)) (rIn 1 d_Re_orderClause_29 rfl)) (rI d_Re_orderClause_30 rfl)) (rI d_Re_orderClause_31 rfl))) (by decide) d_Re_orderClause_32)) (sRz (xTb (xAnd (mm := 56) (xAnd (mm := 48) (xOr (mm := 40) (xC (rJ2 (tgt := 48) j_eq (rIn 2 d_Re_orderClause_35 rfl) (rI d_Re_orderClause_36 rfl) d_Re_orderClause_37 (by decide))) (xNot (xJ1 (tgt := 68) k_eq (xV lv_Re_108 (xA (rAi (rAr rA0 (rAn 0 d_Re_orderClause_40 rfl)) (rIn 1 d_Re_orderClause_41 rfl))) (by decide) d_Re_orderClause_42) d_Re_orderClause_45 (by decide)))) (xNot (xJ1 (tgt := 68) k_eq (xV lv_Re_111 (xA (rAi (rAr rA0 (rAn 0 d_Re_orderClause_48 rfl)) (rIn 1 d_Re_orderClause_49 rfl))) (by decide) d_Re_orderClause_50) d_Re_orderClause_53 (by decide)))) (xNot (xJ1 (tgt := 68) k_eq (xV lv_Re_103 (xA (rAi (rAr rA0 (rAn 0 d_Re_orderClause_56 rfl)) (rIn 1 d_Re_orderClause_57 rfl))) (by decide) d_Re_orderClause_58) d_Re_orderClause_61 (by decide)))) (rGoE (p2 := 69) (rI d_Re_orderClause_64 rfl) d_Re_orderClause_65 (by decide)) (rI d_Re_orderClause_68 rfl)) d_Re_orderClause_69 rfl)))))))
theorem q_Re_maybeTest {d : Nat} (hd : 46 ≤ d) {B : Int → Int} {n : Nat} {o : Bool} {t l w : Nat} {μ : zMem} {k : Int} (hB : okB B n) (hk : 0 ≤ k ∧ k < 12) (h : PSt B n o t l w μ) (hl : l ≤ 50) (ht : t ≤ n) (hw : 85 ≤ w ∧ w ≤ 85 + 2 * l + NT (cT B n) t) : zSp d 0 0 y_Re_maybeTest zT0 [vr 321, vi k] μ zT0 (RQ (pMT o (cT B n) (vT B n) t l w) (FB B n μ) (GT B n o w k μ)) := by
  have hB1 := hB.1
  refine zSp.ss [vr 321, vi k] rfl (w_Re_maybeTest (Nat.le_trans (by decide) hd)) rfl rfl ?_
  (try simp only [zit_e, Bool.and_eq_true, Bool.or_eq_true, Bool.not_eq_true', Bool.and_eq_false_iff, Bool.or_eq_false_iff, Bool.not_eq_false', zbe, zdt, zdf, zb2_p, zbp_0, zbp_1, zbp_inj, zbp_01, Bool.true_eq_false, Bool.false_eq_true, true_and, and_true, Decidable.not_not, Classical.not_not, implies_true, List.nil_append, List.cons_append, List.append_assoc, Option.some.injEq, Sum.inl.injEq, zSw_c, zSw_n]); (try simp only [zit_e, Bool.and_eq_true, Bool.or_eq_true, Bool.not_eq_true', Bool.and_eq_false_iff, Bool.or_eq_false_iff, Bool.not_eq_false', zbe, zdt, zdf, zb2_p, zbp_0, zbp_1, zbp_inj, zbp_01, Bool.true_eq_false, Bool.false_eq_true, true_and, and_true, Decidable.not_not, Classical.not_not, implies_true, List.nil_append, List.cons_append, List.append_assoc, Option.some.injEq, Sum.inl.injEq, zSw_c, zSw_n, zc_321, f_Re_isWord, g_Re_isWord]); (try simp only [zi_cs, zi_c0, zii_cs, zii_c0, zl_cs, zl_c0, zll_cs, zll_c0, zr_cs, zr_c0, zrr_cs, zrr_c0, zxs_cs, zxs_c0, zxx_cs, zxx_c0, zfree_c0, zfree_c1, zfree_cs, zfree_cz, zlong_i, zlong_r, zlong_x, zset_0, zset_s, true_and, and_true, Option.some.injEq, Sum.inl.injEq, Sum.inr.injEq, zb2_p, zbp_0, zbp_1, zbp_inj, zbp_01, Nat.zero_add, Nat.reduceAdd, implies_true, List.nil_append, List.cons_append, List.append_assoc, Int.not_lt, Int.not_le, Decidable.not_not, Int.zero_add, Int.reduceLE, Int.reduceLT, Int.reduceEq, Int.reduceNe, Int.reduceAdd, Int.reduceSub, Int.reduceMul, Int.reduceNeg, Int.reduceToNat, Nat.reduceMul, Nat.reduceLT, Nat.reduceEqDiff, and_self, ite_true, ite_false, zx1, zx2, zRecv, List.length_cons, List.length_nil, ne_eq, not_true_eq_false, not_false_eq_true, true_or, or_true, or_false, false_or, and_false, false_and, zf01, zf10, reduceCtorEq, zSw_c, zSw_n, zm_r, zit_T, zit_F, false_implies, true_implies, zc_321, f_Re_isWord, g_Re_isWord])
  rw [h.2.2.1]
  refine mk_w (by omega) h hk (by decide) (fun μ1 a1 a2 a3 a4 => ⟨rfl, ?_⟩)
  have hwd := RD_word hB a1.1 (show 2 ≤ 7 ∧ 7 < 13 by decide)
  have hkw : kwF 7 (cT B n t) = if cT B n t = 5 then 0 else -1 := rfl
  have hpp := RD_p a1.1
  rw [hwd]
  refine ⟨⟨by decide, fun _ => by omega⟩, ?_⟩
  by_cases c : cT B n t = 5
  · rw [if_pos c] at hkw
    rw [if_pos hkw]
    have htn : t < n := zNlt (c := cT B n) (fun u hu => cT_N u hu) (by rw [c]; decide)
    have hmo := NT_mono (c := cT B n) (t := t) 1
    refine nx_w (by omega) hB a1 (fun μ2 b1 b2 b3 => ⟨rfl, zCw.use (ct_T (o := o) hB 8 (Nat.le_refl _) μ2 (t + 1) l w b1 hl htn (by omega)) (by omega) (fun r μ3 e => ?_)⟩)
    have hP : pMT o (cT B n) (vT B n) t l w = (match lvT o (cT B n) (vT B n) 8 (t + 1) l w with
      | (t1, none) => (t1, none)
      | (t1, some (l1, m, cd)) => (t1, some (l1, some m, cd))) := by
      unfold pMT
      rw [if_pos c]
      rfl
    rcases h1 : lvT o (cT B n) (vT B n) 8 (t + 1) l w with ⟨t1, _ | ⟨l1, m1, c1⟩⟩
    · obtain ⟨rfl, e1, e2⟩ := e.1 _ h1
      rw [h1] at hP
      refine ⟨0, rfl, ?_⟩
      rw [if_pos rfl]
      exact RQ_n hP rfl ⟨e1, (a2.tr b2).tr e2⟩
    obtain ⟨rfl, e1, e2, e3, e4⟩ := e.2 _ _ _ _ h1
    rw [h1] at hP
    refine ⟨1, rfl, ?_⟩
    rw [if_neg (by decide), e1.2.2.1]
    refine mk_w (by omega) e1 hk (by decide) (fun μ4 g1 g2 g3 g4 => ⟨rfl, RQ_s hP rfl ⟨g1, Seg_d e2 (fun i h0 hi => g4 i (by omega)), ⟨?_, g3⟩, fun i hi j1 j2 => ?_, ((a2.tr b2).tr e4).tr g2⟩⟩)
    · rw [g4 _ (by omega), e3 _ (by omega), b3, a3]
    · rw [g4 i j2, e3 i hi, b3, a4 i j1]
  · rw [if_neg c] at hkw
    rw [if_neg (by omega), a1.2.2.1]
    have hP : pMT o (cT B n) (vT B n) t l w = (t, some (l, none, [])) := by
      unfold pMT
      rw [if_neg c]
    refine mk_w (by omega) a1 hk (by decide) (fun μ4 g1 g2 g3 g4 => ⟨rfl, RQ_s hP rfl ⟨g1, Seg_nil, ⟨?_, g3⟩, fun i hi j1 j2 => ?_, a2.tr g2⟩⟩)
    · rw [g4 _ (by omega), a3]
    · rw [g4 i j2, a4 i j1]
theorem q_Re_maybeTimes {d : Nat} (hd : 12 ≤ d) {B : Int → Int} {n : Nat} {o : Bool} {t l w : Nat} {μ : zMem} {k : Int} (hB : okB B n) (hk : 0 ≤ k ∧ k < 12) (h : PSt B n o t l w μ) (h1 : μ 323 (1 + k * 7 + 1) = 1) : zSp d 0 0 y_Re_maybeTimes zT0 [vr 321, vi k] μ zT0 (RQ (pTm (cT B n) (vT B n) t) (FB B n μ) (GM B n o l w k μ)) := by
  have hB1 := hB.1
  have hwd := RD_word hB h.1 (show 2 ≤ 6 ∧ 6 < 13 by decide)
  have hkw : kwF 6 (cT B n t) = if cT B n t = 29 then 0 else -1 := rfl
  have hpp := RD_p h.1
  refine zSp.ss [vr 321, vi k] rfl (w_Re_maybeTimes (Nat.le_trans (by decide) hd)) rfl rfl ?_
  (try simp only [zit_e, Bool.and_eq_true, Bool.or_eq_true, Bool.not_eq_true', Bool.and_eq_false_iff, Bool.or_eq_false_iff, Bool.not_eq_false', zbe, zdt, zdf, zb2_p, zbp_0, zbp_1, zbp_inj, zbp_01, Bool.true_eq_false, Bool.false_eq_true, true_and, and_true, Decidable.not_not, Classical.not_not, implies_true, List.nil_append, List.cons_append, List.append_assoc, Option.some.injEq, Sum.inl.injEq, zSw_c, zSw_n]); (try simp only [zit_e, Bool.and_eq_true, Bool.or_eq_true, Bool.not_eq_true', Bool.and_eq_false_iff, Bool.or_eq_false_iff, Bool.not_eq_false', zbe, zdt, zdf, zb2_p, zbp_0, zbp_1, zbp_inj, zbp_01, Bool.true_eq_false, Bool.false_eq_true, true_and, and_true, Decidable.not_not, Classical.not_not, implies_true, List.nil_append, List.cons_append, List.append_assoc, Option.some.injEq, Sum.inl.injEq, zSw_c, zSw_n, zc_321, f_Re_isWord, g_Re_isWord]); (try simp only [zi_cs, zi_c0, zii_cs, zii_c0, zl_cs, zl_c0, zll_cs, zll_c0, zr_cs, zr_c0, zrr_cs, zrr_c0, zxs_cs, zxs_c0, zxx_cs, zxx_c0, zfree_c0, zfree_c1, zfree_cs, zfree_cz, zlong_i, zlong_r, zlong_x, zset_0, zset_s, true_and, and_true, Option.some.injEq, Sum.inl.injEq, Sum.inr.injEq, zb2_p, zbp_0, zbp_1, zbp_inj, zbp_01, Nat.zero_add, Nat.reduceAdd, implies_true, List.nil_append, List.cons_append, List.append_assoc, Int.not_lt, Int.not_le, Decidable.not_not, Int.zero_add, Int.reduceLE, Int.reduceLT, Int.reduceEq, Int.reduceNe, Int.reduceAdd, Int.reduceSub, Int.reduceMul, Int.reduceNeg, Int.reduceToNat, Nat.reduceMul, Nat.reduceLT, Nat.reduceEqDiff, and_self, ite_true, ite_false, zx1, zx2, zRecv, List.length_cons, List.length_nil, ne_eq, not_true_eq_false, not_false_eq_true, true_or, or_true, or_false, false_or, and_false, false_and, zf01, zf10, reduceCtorEq, zSw_c, zSw_n, zm_r, zit_T, zit_F, false_implies, true_implies, zc_321, f_Re_isWord, g_Re_isWord])
  rw [hwd]
  refine ⟨⟨by decide, fun _ => by omega⟩, ?_⟩
  by_cases c : cT B n t = 29
  · rw [if_pos c] at hkw
    rw [if_neg (by omega)]
    refine nx_w (by omega) hB h (fun μ1 a1 a2 a3 => ⟨rfl, ?_⟩)
    have hnum := RD_num hB a1.1
    by_cases c2 : cT B n (t + 1) = 50 ∧ 1 ≤ vT B n (t + 1) ∧ vT B n (t + 1) ≤ 20
    · have h10 := hnum.2.1 c2.1
      have h7 := hnum.1.mpr c2.1
      have hP : pTm (cT B n) (vT B n) t = (t + 2, some (vT B n (t + 1))) := by
        unfold pTm
        rw [if_pos c, if_pos c2]
      rw [if_neg (by omega), h10, show min 1001 (vT B n (t + 1)) = vT B n (t + 1) by omega]
      exact mk_w (by omega) a1 hk (by decide) (fun μ2 b1 b2 b3 b4 => ⟨rfl, nx_w (by omega) hB b1 (fun μ3 e1 e2 e3 => ⟨rfl, RQ_s hP rfl ⟨e1, by rw [e3]; exact b3, fun i hi => by rw [e3, b4 i hi, a3], (a2.tr b2).tr e2⟩⟩)⟩)
    · have hP : pTm (cT B n) (vT B n) t = (t + 1, none) := by
        unfold pTm
        rw [if_pos c, if_neg c2]
      rw [if_pos (by
        by_cases q : cT B n (t + 1) = 50
        · have := hnum.2.1 q
          omega
        · have := hnum.1
          omega)]
      exact fl_w (by omega) a1 (fun μ' g1 g2 => ⟨0, rfl, Or.inl rfl, RQ_n hP rfl ⟨g1, a2.tr g2⟩⟩)
  · rw [if_neg c] at hkw
    rw [if_pos (by omega)]
    have hP : pTm (cT B n) (vT B n) t = (t, some 1) := by
      unfold pTm
      rw [if_neg c]
    exact RQ_s hP rfl ⟨h, h1, fun _ _ => rfl, FR.rf⟩
theorem q_Re_threeSums {d : Nat} (hd : 41 ≤ d) {B : Int → Int} {n : Nat} {t l w : Nat} {μ : zMem} {k : Int} (hB : okB B n) (hk : 0 ≤ k ∧ k < 12) (h : PSt B n true t l w μ) (hl : l ≤ 50) (ht : t ≤ n) (hw : 85 ≤ w ∧ w ≤ 85 + 2 * l + NT (cT B n) t) : zSp d 0 0 y_Re_threeSums zT0 [vr 321, vi k] μ zT0 (RQ (p3S (cT B n) (vT B n) t l w) (FB B n μ) (G3 B n w k μ)) := by
  have hB1 := hB.1
  refine zSp.ss [vr 321, vi k] rfl (w_Re_threeSums (Nat.le_trans (by decide) hd)) rfl rfl ?_
  (try simp only [zit_e, Bool.and_eq_true, Bool.or_eq_true, Bool.not_eq_true', Bool.and_eq_false_iff, Bool.or_eq_false_iff, Bool.not_eq_false', zbe, zdt, zdf, zb2_p, zbp_0, zbp_1, zbp_inj, zbp_01, Bool.true_eq_false, Bool.false_eq_true, true_and, and_true, Decidable.not_not, Classical.not_not, implies_true, List.nil_append, List.cons_append, List.append_assoc, Option.some.injEq, Sum.inl.injEq, zSw_c, zSw_n]); (try simp only [zit_e, Bool.and_eq_true, Bool.or_eq_true, Bool.not_eq_true', Bool.and_eq_false_iff, Bool.or_eq_false_iff, Bool.not_eq_false', zbe, zdt, zdf, zb2_p, zbp_0, zbp_1, zbp_inj, zbp_01, Bool.true_eq_false, Bool.false_eq_true, true_and, and_true, Decidable.not_not, Classical.not_not, implies_true, List.nil_append, List.cons_append, List.append_assoc, Option.some.injEq, Sum.inl.injEq, zSw_c, zSw_n, zc_321]); (try simp only [zi_cs, zi_c0, zii_cs, zii_c0, zl_cs, zl_c0, zll_cs, zll_c0, zr_cs, zr_c0, zrr_cs, zrr_c0, zxs_cs, zxs_c0, zxx_cs, zxx_c0, zfree_c0, zfree_c1, zfree_cs, zfree_cz, zlong_i, zlong_r, zlong_x, zset_0, zset_s, true_and, and_true, Option.some.injEq, Sum.inl.injEq, Sum.inr.injEq, zb2_p, zbp_0, zbp_1, zbp_inj, zbp_01, Nat.zero_add, Nat.reduceAdd, implies_true, List.nil_append, List.cons_append, List.append_assoc, Int.not_lt, Int.not_le, Decidable.not_not, Int.zero_add, Int.reduceLE, Int.reduceLT, Int.reduceEq, Int.reduceNe, Int.reduceAdd, Int.reduceSub, Int.reduceMul, Int.reduceNeg, Int.reduceToNat, Nat.reduceMul, Nat.reduceLT, Nat.reduceEqDiff, and_self, ite_true, ite_false, zx1, zx2, zRecv, List.length_cons, List.length_nil, ne_eq, not_true_eq_false, not_false_eq_true, true_or, or_true, or_false, false_or, and_false, false_and, zf01, zf10, reduceCtorEq, zSw_c, zSw_n, zm_r, zit_T, zit_F, false_implies, true_implies, zc_321])
  have hGS := PG_S (o := true) (v := vT B n) (fun u hu => cT_N (B := B) (n := n) u hu) 8
  have hSs := ct_S (o := true) hB 8 (Nat.le_refl _)
  have hk27 : ∀ u, kwF 4 (cT B n u) = if cT B n u = 27 then 0 else -1 := fun _ => rfl
  have hk28 : ∀ u, kwF 5 (cT B n u) = if cT B n u = 28 then 0 else -1 := fun _ => rfl
  generalize hR : p3S (cT B n) (vT B n) t l w = R
  unfold p3S at hR
  rw [h.2.2.1]
  refine mk_w (by omega) h hk (by decide) (fun μ1 a1 a2 a3 a4 => ⟨rfl, zCw.use (hSs μ1 t l w a1 hl ht (by omega)) (by omega) (fun r μ2 e => ?_)⟩)
  have hg := hGS t l w hl ht
  rcases h1 : lvS true (cT B n) (vT B n) 8 t l w with ⟨t1, _ | ⟨l1, m1, c1⟩⟩
  · obtain ⟨rfl, e1, e2⟩ := e.1 _ h1
    rw [h1] at hR
    refine ⟨0, rfl, ?_⟩
    rw [if_pos rfl]
    exact RQ_n hR.symm rfl ⟨e1, a2.tr e2⟩
  obtain ⟨rfl, e1, e2, e3, e4⟩ := e.2 _ _ _ _ h1
  have hg1 := hg.2 _ _ _ _ h1
  rw [h1] at hR
  dsimp only at hR
  refine ⟨1, rfl, ?_⟩
  rw [if_neg (by decide)]
  refine tk_w (by omega) hB e1 (by decide) (fun c27 μ3 f1 f2 f3 => ⟨1, rfl, ?_⟩) (fun c27 μ3 f1 f2 => ⟨0, rfl, by
    rw [if_pos rfl]
    rw [hk27] at c27
    have q : ¬ cT B n t1 = 27 := fun q => c27 (by rw [if_pos q])
    rw [if_neg q] at hR
    exact RQ_n hR.symm rfl ⟨f1, (a2.tr e4).tr f2⟩⟩)
  have q27 : cT B n t1 = 27 := by
    rw [hk27] at c27
    apply Classical.byContradiction
    intro q
    rw [if_neg q] at c27
    omega
  have htn : t1 < n := zNlt (c := cT B n) (fun u hu => cT_N u hu) (by rw [q27]; decide)
  have hmo := NT_mono (c := cT B n) (t := t1) 1
  rw [if_pos q27] at hR
  rw [if_neg (by decide), f1.2.2.1]
  refine mk_w (by omega) f1 hk (by decide) (fun μ4 b1 b2 b3 b4 => ⟨rfl, zCw.use (hSs μ4 (t1 + 1) l1 (w + c1.length) b1 hg1.2.2.2.1 htn (by omega)) (by omega) (fun r μ5 g => ?_)⟩)
  have hg' := hGS (t1 + 1) l1 (w + c1.length) hg1.2.2.2.1 htn
  rcases h2 : lvS true (cT B n) (vT B n) 8 (t1 + 1) l1 (w + c1.length) with ⟨t2, _ | ⟨l2, m2, c2⟩⟩
  · obtain ⟨rfl, g1, g2⟩ := g.1 _ h2
    rw [h2] at hR
    refine ⟨0, rfl, ?_⟩
    rw [if_pos rfl]
    exact RQ_n hR.symm rfl ⟨g1, (((a2.tr e4).tr f2).tr b2).tr g2⟩
  obtain ⟨rfl, g1, g2, g3, g4⟩ := g.2 _ _ _ _ h2
  have hg2 := hg'.2 _ _ _ _ h2
  rw [h2] at hR
  dsimp only at hR
  refine ⟨1, rfl, ?_⟩
  rw [if_neg (by decide)]
  refine tk_w (by omega) hB g1 (by decide) (fun c28 μ6 j1 j2 j3 => ⟨1, rfl, ?_⟩) (fun c28 μ6 j1 j2 => ⟨0, rfl, by
    rw [if_pos rfl]
    rw [hk28] at c28
    have q : ¬ cT B n t2 = 28 := fun q => c28 (by rw [if_pos q])
    rw [if_neg q] at hR
    exact RQ_n hR.symm rfl ⟨j1, ((((a2.tr e4).tr f2).tr b2).tr g4).tr j2⟩⟩)
  have q28 : cT B n t2 = 28 := by
    rw [hk28] at c28
    apply Classical.byContradiction
    intro q
    rw [if_neg q] at c28
    omega
  have htn2 : t2 < n := zNlt (c := cT B n) (fun u hu => cT_N u hu) (by rw [q28]; decide)
  have hmo2 := NT_mono (c := cT B n) (t := t2) 1
  rw [if_pos q28] at hR
  rw [if_neg (by decide), j1.2.2.1]
  refine mk_w (by omega) j1 hk (by decide) (fun μ7 p1 p2 p3 p4 => ⟨rfl, zCw.use (hSs μ7 (t2 + 1) l2 (w + c1.length + c2.length) p1 hg2.2.2.2.1 htn2 (by omega)) (by omega) (fun r μ8 s => ?_)⟩)
  rcases h3 : lvS true (cT B n) (vT B n) 8 (t2 + 1) l2 (w + c1.length + c2.length) with ⟨t3, _ | ⟨l3, m3, c3⟩⟩
  · obtain ⟨rfl, s1, s2⟩ := s.1 _ h3
    rw [h3] at hR
    exact ⟨0, rfl, Or.inl rfl, RQ_n hR.symm rfl ⟨s1, ((((((a2.tr e4).tr f2).tr b2).tr g4).tr j2).tr p2).tr s2⟩⟩
  obtain ⟨rfl, s1, s2, s3, s4⟩ := s.2 _ _ _ _ h3
  rw [h3] at hR
  refine ⟨1, rfl, Or.inr rfl, RQ_s hR.symm rfl ⟨?_, ?_, ⟨?_, ?_, ?_⟩, fun i hi hi2 => ?_, ((((((a2.tr e4).tr f2).tr b2).tr g4).tr j2).tr p2).tr s4⟩⟩
  · show PSt B n true t3 l3 (w + (c1 ++ c2 ++ c3).length) μ8
    rw [List.length_append, List.length_append, show w + (c1.length + c2.length + c3.length) = w + c1.length + c2.length + c3.length by omega]
    exact s1
  · show Seg (μ8 323) w (c1 ++ c2 ++ c3)
    rw [Seg_app, Seg_app, List.length_append, show w + (c1.length + c2.length) = w + c1.length + c2.length by omega]
    refine ⟨⟨Seg_d e2 (fun i h0 hi => ?_), Seg_d g2 (fun i h0 hi => ?_)⟩, s2⟩
    · rw [s3 i (by omega), p4 i (by omega), j3, g3 i (by omega), b4 i (by omega), f3]
    · rw [s3 i (by omega), p4 i (by omega), j3]
  · rw [s3 _ (by omega), p4 _ (by omega), j3, g3 _ (by omega), b4 _ (by omega), f3, e3 _ (by omega), a3]
  · rw [s3 _ (by omega), p4 _ (by omega), j3, g3 _ (by omega), b3]
  · rw [s3 _ (by omega), p3]
  · rw [s3 i (by omega), p4 i (by omega), j3, g3 i (by omega), b4 i (by omega), f3, e3 i (by omega), a4 i (by omega)]
theorem p3S_PG {B : Int → Int} {n t l w t1 l1 a2 a3 : Nat} {m1 m2 m3 : Mn} {cd : List Int} (e : p3S (cT B n) (vT B n) t l w = (t1, some (l1, (a2, a3), (m1, m2, m3), cd))) (hl : l ≤ 50) (ht : t ≤ n) : l1 ≤ 50 ∧ t1 ≤ n ∧ t < t1 ∧ l ≤ l1 ∧ cd.length + NT (cT B n) t + 2 * l ≤ 2 * l1 + NT (cT B n) t1 := by
  have hN : ∀ u, n ≤ u → cT B n u = 0 := fun u hu => cT_N u hu
  have hG := PG_S (o := true) (v := vT B n) hN 8
  unfold p3S at e
  rcases e1 : lvS true (cT B n) (vT B n) 8 t l w with ⟨t2, _ | ⟨l2, n2, c2⟩⟩
  · rw [e1] at e
    cases e
  rw [e1] at e
  simp only at e
  have g1 := (hG t l w hl ht).2 _ _ _ _ e1
  split at e
  · next q1 =>
    have hm1 := NT_mono (c := cT B n) (t := t2) 1
    have hlt := zNlt (c := cT B n) hN (show cT B n t2 ≠ 0 by rw [q1]; decide)
    rcases e2 : lvS true (cT B n) (vT B n) 8 (t2 + 1) l2 (w + c2.length) with ⟨t3, _ | ⟨l3, n3, c3⟩⟩
    · rw [e2] at e
      cases e
    rw [e2] at e
    simp only at e
    have g2 := (hG (t2 + 1) l2 (w + c2.length) g1.2.2.2.1 hlt).2 _ _ _ _ e2
    split at e
    · next q2 =>
      have hm2 := NT_mono (c := cT B n) (t := t3) 1
      have hlt2 := zNlt (c := cT B n) hN (show cT B n t3 ≠ 0 by rw [q2]; decide)
      rcases e3 : lvS true (cT B n) (vT B n) 8 (t3 + 1) l3 (w + c2.length + c3.length) with ⟨t4, _ | ⟨l4, n4, c4⟩⟩
      · rw [e3] at e
        cases e
      rw [e3] at e
      have g3 := (hG (t3 + 1) l3 (w + c2.length + c3.length) g2.2.2.2.1 hlt2).2 _ _ _ _ e3
      cases e
      rw [List.length_append, List.length_append]
      omega
    · cases e
  · cases e
theorem q_Re_lawClause {d : Nat} (hd : 47 ≤ d) {B : Int → Int} {n : Nat} {t l w : Nat} {μ : zMem} {k : Int} (hB : okB B n) (hk : 0 ≤ k ∧ k < 12) (h : PSt B n false t l w μ) (hl : l ≤ 50) (ht : t ≤ n) (hw : 85 ≤ w ∧ w ≤ 85 + 2 * l + NT (cT B n) t) : zSp d 0 0 y_Re_lawClause zT0 [vr 321, vi k] μ zT0 (RQ (pLawC (cT B n) (vT B n) t l w) (FB B n μ) (GC B n false w k μ)) := by
  have hB1 := hB.1
  have hwd := RD_word hB h.1 (show 2 ≤ 2 ∧ 2 < 13 by decide)
  have hkw : kwF 2 (cT B n t) = if 1 ≤ cT B n t ∧ cT B n t ≤ 4 then cT B n t - 1 else -1 := rfl
  have hpp := RD_p h.1
  refine zSp.ss [vr 321, vi k, vx 0] rfl (w_Re_lawClause (Nat.le_trans (by decide) hd)) rfl rfl ?_
  (try simp only [zit_e, Bool.and_eq_true, Bool.or_eq_true, Bool.not_eq_true', Bool.and_eq_false_iff, Bool.or_eq_false_iff, Bool.not_eq_false', zbe, zdt, zdf, zb2_p, zbp_0, zbp_1, zbp_inj, zbp_01, Bool.true_eq_false, Bool.false_eq_true, true_and, and_true, Decidable.not_not, Classical.not_not, implies_true, List.nil_append, List.cons_append, List.append_assoc, Option.some.injEq, Sum.inl.injEq, zSw_c, zSw_n]); (try simp only [zit_e, Bool.and_eq_true, Bool.or_eq_true, Bool.not_eq_true', Bool.and_eq_false_iff, Bool.or_eq_false_iff, Bool.not_eq_false', zbe, zdt, zdf, zb2_p, zbp_0, zbp_1, zbp_inj, zbp_01, Bool.true_eq_false, Bool.false_eq_true, true_and, and_true, Decidable.not_not, Classical.not_not, implies_true, List.nil_append, List.cons_append, List.append_assoc, Option.some.injEq, Sum.inl.injEq, zSw_c, zSw_n, zc_321, f_Re_wordIn, g_Re_wordIn]); (try simp only [zi_cs, zi_c0, zii_cs, zii_c0, zl_cs, zl_c0, zll_cs, zll_c0, zr_cs, zr_c0, zrr_cs, zrr_c0, zxs_cs, zxs_c0, zxx_cs, zxx_c0, zfree_c0, zfree_c1, zfree_cs, zfree_cz, zlong_i, zlong_r, zlong_x, zset_0, zset_s, true_and, and_true, Option.some.injEq, Sum.inl.injEq, Sum.inr.injEq, zb2_p, zbp_0, zbp_1, zbp_inj, zbp_01, Nat.zero_add, Nat.reduceAdd, implies_true, List.nil_append, List.cons_append, List.append_assoc, Int.not_lt, Int.not_le, Decidable.not_not, Int.zero_add, Int.reduceLE, Int.reduceLT, Int.reduceEq, Int.reduceNe, Int.reduceAdd, Int.reduceSub, Int.reduceMul, Int.reduceNeg, Int.reduceToNat, Nat.reduceMul, Nat.reduceLT, Nat.reduceEqDiff, and_self, ite_true, ite_false, zx1, zx2, zRecv, List.length_cons, List.length_nil, ne_eq, not_true_eq_false, not_false_eq_true, true_or, or_true, or_false, false_or, and_false, false_and, zf01, zf10, reduceCtorEq, zSw_c, zSw_n, zm_r, zit_T, zit_F, false_implies, true_implies, zc_321, f_Re_wordIn, g_Re_wordIn])
  rw [hwd]
  refine ⟨⟨by decide, fun _ => by omega⟩, ?_⟩
  by_cases c : 1 ≤ cT B n t ∧ cT B n t ≤ 4
  case neg =>
    rw [if_neg c] at hkw
    rw [if_pos hkw]
    have hP : pLawC (cT B n) (vT B n) t l w = (t, none) := by
      unfold pLawC
      rw [if_neg c]
    exact fl_w (by omega) h (fun μ' a e => ⟨0, rfl, Or.inl rfl, RQ_n hP rfl ⟨a, e⟩⟩)
  rw [if_pos c] at hkw
  rw [hkw, if_neg (by omega)]
  have htn : t < n := zNlt (c := cT B n) (fun u hu => cT_N u hu) (by omega)
  have hmo := NT_mono (c := cT B n) (t := t) 1
  have hGS := PG_S (o := false) (v := vT B n) (fun u hu => cT_N (B := B) (n := n) u hu) 8
  generalize hR : pLawC (cT B n) (vT B n) t l w = R
  unfold pLawC at hR
  rw [if_pos c] at hR
  have tail : ∀ {t1 l1 : Nat} {m1 : Mn} {c1 : List Int} {μ1 : zMem}, pLw (cT B n) (vT B n) t l w = (t1, some (l1, m1, c1)) → PSt B n false t1 l1 (w + c1.length) μ1 → l1 ≤ 50 → t1 ≤ n → w + c1.length ≤ 85 + 2 * l1 + NT (cT B n) t1 → Seg (μ1 323) w c1 → μ1 323 (1 + k * 7) = cT B n t - 1 → μ1 323 (1 + k * 7 + 2) = w → (∀ i : Int, i < w → ¬ hd_in k i → μ1 323 i = μ 323 i) → FR μ μ1 → zCw d y_Re_mark [vr 321, vi k, vi 3, vi (μ1 321 5)] μ1 (fun q μ2 => q = none ∧ zCw d y_Re_maybeTest [vr 321, vi k] μ2 (fun q μ2 => ∃ n_1, q = some (vi n_1) ∧ (n_1 = 0 ∨ n_1 = 1) ∧ RQ R (FB B n μ) (GC B n false w k μ) (some (vi n_1)) μ2)) := by
    intro t1 l1 m1 c1 μ1 g0 g1 g2 g3 g4 g5 g6 g7 g8 g9
    rw [g0] at hR
    dsimp only at hR
    rw [g1.2.2.1]
    refine mk_w (by omega) g1 hk (by decide) (fun μ2 a1 a2 a3 a4 => ⟨rfl, zCw.use (q_Re_maybeTest (d := 46) (Nat.le_refl _) hB hk a1 g2 g3 (by omega)) (by omega) (fun r μ3 e => ?_)⟩)
    rcases h1 : pMT false (cT B n) (vT B n) t1 l1 (w + c1.length) with ⟨t2, _ | ⟨l2, mt, c2⟩⟩
    · obtain ⟨rfl, e1, e2⟩ := e.1 _ h1
      rw [h1] at hR
      exact ⟨0, rfl, Or.inl rfl, RQ_n hR.symm rfl ⟨e1, (g9.tr a2).tr e2⟩⟩
    obtain ⟨rfl, e1, e2, e3, e4, e5⟩ := e.2 _ _ h1
    rw [h1] at hR
    dsimp only at e1 e2 e3 e4 e5
    have hi : ∀ i : Int, i < w → ¬ i = 1 + k * 7 + 3 → ¬ i = 1 + k * 7 + 5 → ¬ i = 1 + k * 7 + 6 → μ3 323 i = μ1 323 i := fun i i1 i2 i3 i4 => by rw [e4 i (by omega) i3 i4, a4 i i2]
    refine ⟨1, rfl, Or.inr rfl, RQ_s hR.symm rfl ⟨?_, ?_, ⟨?_, fun q => absurd q (by decide), fun _ => ⟨?_, ?_⟩, fun q => absurd q (by decide), ?_, ?_⟩, fun i i1 i2 => ?_, (g9.tr a2).tr e5⟩⟩
    · show PSt B n false t2 l2 (w + (c1 ++ c2).length) μ3
      rw [List.length_append, ← Nat.add_assoc]
      exact e1
    · show Seg (μ3 323) w (c1 ++ c2)
      rw [Seg_app]
      exact ⟨Seg_d g5 (fun i h0 h1 => by rw [e4 i (by omega) (by omega) (by omega), a4 i (by omega)]), e2⟩
    · rw [hi _ (by omega) (by omega) (by omega) (by omega)]
      exact g6
    · rw [hi _ (by omega) (by omega) (by omega) (by omega)]
      exact g7
    · rw [e4 _ (by omega) (by omega) (by omega)]
      exact a3
    · exact e3.1
    · exact e3.2
    · unfold hd_in at i2
      rw [hi i i1 (by omega) (by omega) (by omega)]
      exact g8 i i1 (by unfold hd_in; exact i2)
  refine nx_w (by omega) hB h (fun μ1 a1 a2 a3 => ⟨rfl, mk_w (by omega) a1 hk (by decide) (fun μ2 b1 b2 b3 b4 => ⟨rfl, ?_⟩)⟩)
  rw [b1.2.2.1]
  refine mk_w (by omega) b1 hk (by decide) (fun μ3 e1 e2 e3 e4 => ⟨rfl, ?_⟩)
  rw [Int.add_zero] at b3 b4
  have hlo : ∀ i : Int, i < w → ¬ hd_in k i → μ3 323 i = μ 323 i := fun i i1 i2 => by
    unfold hd_in at i2
    rw [e4 i (by omega), b4 i (by omega), a3]
  refine zif (fun c4 => ?_) (fun c4 => ?_)
  · have hL : pLw (cT B n) (vT B n) t l w = lvS false (cT B n) (vT B n) 8 (t + 1) l w := by
      unfold pLw
      rw [if_neg (by omega)]
    refine zCw.use (ct_S (o := false) hB 8 (Nat.le_refl _) μ3 (t + 1) l w e1 hl htn (by omega)) (by omega) (fun r μ4 g => ?_)
    have hg := hGS (t + 1) l w hl htn
    rcases h1 : lvS false (cT B n) (vT B n) 8 (t + 1) l w with ⟨t1, _ | ⟨l1, m1, c1⟩⟩
    · obtain ⟨rfl, g1, g2⟩ := g.1 _ h1
      rw [hL, h1] at hR
      refine ⟨0, rfl, ?_⟩
      rw [if_pos rfl]
      exact RQ_n hR.symm rfl ⟨g1, ((a2.tr b2).tr e2).tr g2⟩
    obtain ⟨rfl, g1, g2, g3, g4⟩ := g.2 _ _ _ _ h1
    have hg1 := hg.2 _ _ _ _ h1
    refine ⟨1, rfl, ?_⟩
    rw [if_neg (by decide)]
    refine tail (hL.trans h1) g1 hg1.2.2.2.1 hg1.2.1 (by omega) g2 ?_ ?_ (fun i i1 i2 => by rw [g3 i i1, hlo i i1 i2]) (((a2.tr b2).tr e2).tr g4)
    · rw [g3 _ (by omega), e4 _ (by omega), b3]
    · rw [g3 _ (by omega), e3]
  · have hL : pLw (cT B n) (vT B n) t l w = (t + 1, some (l, fun _ => some 1, [])) := by
      unfold pLw
      rw [if_pos (by omega)]
    refine tail hL e1 hl htn (by show w + 0 ≤ _; omega) Seg_nil ?_ e3 hlo ((a2.tr b2).tr e2)
    rw [e4 _ (by omega), b3]
theorem q_Re_orderClause {d : Nat} (hd : 47 ≤ d) {B : Int → Int} {n : Nat} {t l w : Nat} {μ : zMem} {k : Int} (hB : okB B n) (hk : 0 ≤ k ∧ k < 12) (h : PSt B n true t l w μ) (hl : l ≤ 50) (ht : t ≤ n) (hw : 85 ≤ w ∧ w ≤ 85 + 2 * l + NT (cT B n) t) : zSp d 0 0 y_Re_orderClause zT0 [vr 321, vi k] μ zT0 (RQ (pOrdC (cT B n) (vT B n) t l w) (FB B n μ) (GC B n true w k μ)) := by
  have hB1 := hB.1
  have hwd := RD_word hB h.1 (show 2 ≤ 3 ∧ 3 < 13 by decide)
  have hkw : kwF 3 (cT B n t) = if 24 ≤ cT B n t ∧ cT B n t ≤ 26 then cT B n t - 24 else -1 := rfl
  have hpp := RD_p h.1
  refine zSp.ss [vr 321, vi k, vx 0] rfl (w_Re_orderClause (Nat.le_trans (by decide) hd)) rfl rfl ?_
  (try simp only [zit_e, Bool.and_eq_true, Bool.or_eq_true, Bool.not_eq_true', Bool.and_eq_false_iff, Bool.or_eq_false_iff, Bool.not_eq_false', zbe, zdt, zdf, zb2_p, zbp_0, zbp_1, zbp_inj, zbp_01, Bool.true_eq_false, Bool.false_eq_true, true_and, and_true, Decidable.not_not, Classical.not_not, implies_true, List.nil_append, List.cons_append, List.append_assoc, Option.some.injEq, Sum.inl.injEq, zSw_c, zSw_n]); (try simp only [zit_e, Bool.and_eq_true, Bool.or_eq_true, Bool.not_eq_true', Bool.and_eq_false_iff, Bool.or_eq_false_iff, Bool.not_eq_false', zbe, zdt, zdf, zb2_p, zbp_0, zbp_1, zbp_inj, zbp_01, Bool.true_eq_false, Bool.false_eq_true, true_and, and_true, Decidable.not_not, Classical.not_not, implies_true, List.nil_append, List.cons_append, List.append_assoc, Option.some.injEq, Sum.inl.injEq, zSw_c, zSw_n, zc_321, f_Re_wordIn, g_Re_wordIn]); (try simp only [zi_cs, zi_c0, zii_cs, zii_c0, zl_cs, zl_c0, zll_cs, zll_c0, zr_cs, zr_c0, zrr_cs, zrr_c0, zxs_cs, zxs_c0, zxx_cs, zxx_c0, zfree_c0, zfree_c1, zfree_cs, zfree_cz, zlong_i, zlong_r, zlong_x, zset_0, zset_s, true_and, and_true, Option.some.injEq, Sum.inl.injEq, Sum.inr.injEq, zb2_p, zbp_0, zbp_1, zbp_inj, zbp_01, Nat.zero_add, Nat.reduceAdd, implies_true, List.nil_append, List.cons_append, List.append_assoc, Int.not_lt, Int.not_le, Decidable.not_not, Int.zero_add, Int.reduceLE, Int.reduceLT, Int.reduceEq, Int.reduceNe, Int.reduceAdd, Int.reduceSub, Int.reduceMul, Int.reduceNeg, Int.reduceToNat, Nat.reduceMul, Nat.reduceLT, Nat.reduceEqDiff, and_self, ite_true, ite_false, zx1, zx2, zRecv, List.length_cons, List.length_nil, ne_eq, not_true_eq_false, not_false_eq_true, true_or, or_true, or_false, false_or, and_false, false_and, zf01, zf10, reduceCtorEq, zSw_c, zSw_n, zm_r, zit_T, zit_F, false_implies, true_implies, zc_321, f_Re_wordIn, g_Re_wordIn])
  rw [hwd]
  refine ⟨⟨by decide, fun _ => by omega⟩, ?_⟩
  by_cases c : 24 ≤ cT B n t ∧ cT B n t ≤ 26
  case neg =>
    rw [if_neg c] at hkw
    rw [if_pos hkw]
    have hP : pOrdC (cT B n) (vT B n) t l w = (t, none) := by
      unfold pOrdC
      rw [if_neg c]
    exact fl_w (by omega) h (fun μ' a e => ⟨0, rfl, Or.inl rfl, RQ_n hP rfl ⟨a, e⟩⟩)
  rw [if_pos c] at hkw
  rw [hkw, if_neg (by omega)]
  have htn : t < n := zNlt (c := cT B n) (fun u hu => cT_N u hu) (by omega)
  have hmo := NT_mono (c := cT B n) (t := t) 1
  generalize hR : pOrdC (cT B n) (vT B n) t l w = R
  unfold pOrdC at hR
  rw [if_pos c] at hR
  have tail : ∀ {t1 l1 a2 a3 : Nat} {m1 m2 m3 : Mn} {c1 : List Int} {μ1 : zMem}, p3O (cT B n) (vT B n) t l w = (t1, some (l1, (a2, a3), (m1, m2, m3), c1)) → PSt B n true t1 l1 (w + c1.length) μ1 → l1 ≤ 50 → t1 ≤ n → w + c1.length ≤ 85 + 2 * l1 + NT (cT B n) t1 → Seg (μ1 323) w c1 → μ1 323 (1 + k * 7) = cT B n t - 24 → μ1 323 (1 + k * 7 + 1) = 1 → (¬ cT B n t - 24 = 2 → μ1 323 (1 + k * 7 + 2) = w ∧ μ1 323 (1 + k * 7 + 3) = a2 ∧ μ1 323 (1 + k * 7 + 4) = a3) → (∀ i : Int, i < w → ¬ hd_in k i → μ1 323 i = μ 323 i) → FR μ μ1 → zCw d y_Re_maybeTimes [vr 321, vi k] μ1 (fun q μ2 => ∃ n_1, q = some (vi n_1) ∧ if ¬ n_1 = 0 then zCw d y_Re_maybeTest [vr 321, vi k] μ2 (fun q μ2 => ∃ n_2, q = some (vi n_2) ∧ (n_2 = 0 ∨ ¬ n_2 = 0) ∧ RQ R (FB B n μ) (GC B n true w k μ) (some (vi (zbp ¬ n_2 = 0))) μ2) else RQ R (FB B n μ) (GC B n true w k μ) (some (vi (zbp False))) μ2) := by
    intro t1 l1 a2 a3 m1 m2 m3 c1 μ1 g0 g1 g2 g3 g4 g5 g6 g6b g7 g8 g9
    rw [g0] at hR
    dsimp only at hR
    refine zCw.use (q_Re_maybeTimes (d := 12) (by decide) hB hk g1 g6b) (by omega) (fun r μ2 e => ?_)
    have hmo2 := NT_mono (c := cT B n) (t := t1) 2
    rcases h1 : pTm (cT B n) (vT B n) t1 with ⟨t2, _ | q⟩
    · obtain ⟨rfl, e1, e2⟩ := e.1 _ h1
      rw [h1] at hR
      refine ⟨0, rfl, ?_⟩
      rw [if_neg (by decide)]
      exact RQ_n hR.symm zbp_F ⟨e1, g9.tr e2⟩
    obtain ⟨rfl, e1, e2, e3, e4⟩ := e.2 _ _ h1
    have ht2 : t1 ≤ t2 ∧ t2 ≤ n := by
      unfold pTm at h1
      split at h1
      · next q29 =>
        split at h1
        · next q50 =>
          cases h1
          have := zNlt (c := cT B n) (fun u hu => cT_N u hu) (show cT B n (t1 + 1) ≠ 0 by rw [q50.1]; decide)
          omega
        · cases h1
      · cases h1
        omega
    have hmo3 := NT_le (c := cT B n) ht2.1
    rw [h1] at hR
    dsimp only at hR
    refine ⟨1, rfl, ?_⟩
    rw [if_pos (by decide)]
    refine zCw.use (q_Re_maybeTest (d := 46) (Nat.le_refl _) hB hk e1 g2 ht2.2 (by omega)) (by omega) (fun r μ3 f => ?_)
    rcases h2 : pMT true (cT B n) (vT B n) t2 l1 (w + c1.length) with ⟨t3, _ | ⟨l3, mt, c3⟩⟩
    · obtain ⟨rfl, f1, f2⟩ := f.1 _ h2
      rw [h2] at hR
      exact ⟨0, rfl, by simp, RQ_n hR.symm (zbf (by decide)) ⟨f1, (g9.tr e4).tr f2⟩⟩
    obtain ⟨rfl, f1, f2, f3, f4, f5⟩ := f.2 _ _ h2
    rw [h2] at hR
    dsimp only at f1 f2 f3 f4 f5
    have hi : ∀ i : Int, i < w → ¬ i = 1 + k * 7 + 1 → ¬ i = 1 + k * 7 + 5 → ¬ i = 1 + k * 7 + 6 → μ3 323 i = μ1 323 i := fun i i1 i2 i3 i4 => by rw [f4 i (by omega) i3 i4, e3 i i2]
    refine ⟨1, rfl, by simp, RQ_s hR.symm (zbt (by decide)) ⟨?_, ?_, ⟨?_, fun _ => ?_, fun q => ⟨?_, ?_⟩, fun _ q => ?_, ?_, ?_⟩, fun i i1 i2 => ?_, (g9.tr e4).tr f5⟩⟩
    · show PSt B n true t3 l3 (w + (c1 ++ c3).length) μ3
      rw [List.length_append, ← Nat.add_assoc]
      exact f1
    · show Seg (μ3 323) w (c1 ++ c3)
      rw [Seg_app]
      exact ⟨Seg_d g5 (fun i h0 h1 => by rw [f4 i (by omega) (by omega) (by omega), e3 i (by omega)]), f2⟩
    · rw [hi _ (by omega) (by omega) (by omega) (by omega)]
      exact g6
    · rw [f4 _ (by omega) (by omega) (by omega)]
      exact e2
    · rw [hi _ (by omega) (by omega) (by omega) (by omega)]
      exact (g7 (fun z => q ⟨rfl, z⟩)).1
    · rw [hi _ (by omega) (by omega) (by omega) (by omega)]
      exact (g7 (fun z => q ⟨rfl, z⟩)).2.1
    · rw [hi _ (by omega) (by omega) (by omega) (by omega)]
      exact (g7 q).2.2
    · exact f3.1
    · exact f3.2
    · unfold hd_in at i2
      rw [hi i i1 (by omega) (by omega) (by omega)]
      exact g8 i i1 (by unfold hd_in; exact i2)
  refine nx_w (by omega) hB h (fun μ1 a1 a2 a3 => ⟨rfl, mk_w (by omega) a1 hk (by decide) (fun μ2 b1 b2 b3 b4 => ⟨rfl, mk_w (by omega) b1 hk (by decide) (fun μ3 e1 e2 e3 e4 => ⟨rfl, ?_⟩)⟩)⟩)
  rw [Int.add_zero] at b3 b4
  have hlo : ∀ i : Int, i < w → ¬ hd_in k i → μ3 323 i = μ 323 i := fun i i1 i2 => by
    unfold hd_in at i2
    rw [e4 i (by omega), b4 i (by omega), a3]
  refine zif (fun c4 => ?_) (fun c4 => ?_)
  · have hL : p3O (cT B n) (vT B n) t l w = (t + 1, some (l, (w, w), (fun _ => some 0, fun _ => some 0, fun _ => some 0), [])) := by
      unfold p3O
      rw [if_pos (by omega)]
    refine tail hL e1 hl htn (by show w + 0 ≤ _; omega) Seg_nil ?_ e3 (fun q => absurd c4 q) hlo ((a2.tr b2).tr e2)
    rw [e4 _ (by omega), b3]
  · have hL : p3O (cT B n) (vT B n) t l w = p3S (cT B n) (vT B n) (t + 1) l w := by
      unfold p3O
      rw [if_neg (by omega)]
    refine zCw.use (q_Re_threeSums (d := 41) (Nat.le_refl _) hB hk e1 hl htn (by omega)) (by omega) (fun r μ4 g => ?_)
    rcases h1 : p3S (cT B n) (vT B n) (t + 1) l w with ⟨t1, _ | ⟨l1, ⟨a2', a3'⟩, ⟨m1, m2, m3⟩, c1⟩⟩
    · obtain ⟨rfl, g1, g2⟩ := g.1 _ h1
      rw [hL, h1] at hR
      refine ⟨0, rfl, ?_⟩
      rw [if_neg (by decide)]
      exact RQ_n hR.symm zbp_F ⟨g1, ((a2.tr b2).tr e2).tr g2⟩
    obtain ⟨rfl, g1, g2, g3, g4, g5⟩ := g.2 _ _ h1
    dsimp only at g1 g2 g3 g4 g5
    have hg1 := p3S_PG h1 hl htn
    refine ⟨1, rfl, ?_⟩
    rw [if_pos (by decide)]
    refine tail (hL.trans h1) g1 hg1.1 hg1.2.1 (by omega) g2 ?_ ?_ (fun _ => g3) (fun i i1 i2 => ?_) (((a2.tr b2).tr e2).tr g5)
    · rw [g4 _ (by omega) (by omega), e4 _ (by omega), b3]
    · rw [g4 _ (by omega) (by omega), e3]
    · rw [g4 i i1 (by unfold hd_in at i2; omega), hlo i i1 i2]

