/-! plans, the class -/
def PlS (A : Lg) (V : List D4) (U : Int → Prop) (P : Int → Int) (μ : zMem) : Prop := (∀ p : Int, 0 ≤ p → p < 7 → μ 336 p = puP A V P p) ∧ (∀ h v : Int, 0 ≤ h → h < 7 → 0 ≤ v → v < 7 → h ≠ v → μ 335 (h * 7 + v) = owP A V P h v) ∧ ∀ i : Int, 0 ≤ i → i < 8 → U i → μ 338 i = P i
theorem PlS.mo {A : Lg} {V : List D4} {U U' : Int → Prop} {P : Int → Int} {μ : zMem} (h : PlS A V U P μ) (hu : ∀ i : Int, 0 ≤ i → i < 8 → U' i → U i) : PlS A V U' P μ := ⟨h.1, h.2.1, fun i a b c => h.2.2 i a b (hu i a b c)⟩
theorem PlS.c {A : Lg} {V : List D4} {U : Int → Prop} {P : Int → Int} {μ μ' : zMem} (h : PlS A V U P μ) (h1 : μ' 335 = μ 335) (h2 : μ' 336 = μ 336) (h3 : μ' 338 = μ 338) : PlS A V U P μ' := by
  unfold PlS at *
  rw [h1, h2, h3]
  exact h
/-- what the class's plan writes -/
def CPl (w : Int → Int) (μ μ' : zMem) : Prop := zfc [325, 326, 327, 334, 335, 336, 337, 338, 339, 340, 341, 342] μ μ' ∧ wK w (μ' 326)
theorem CPl.tr {w : Int → Int} {a b c : zMem} (h1 : CPl w a b) (h2 : CPl w b c) : CPl w a c := ⟨(h1.1.tr h2.1).mo (by simp), h2.2⟩
theorem CF.pl {w : Int → Int} {a b : zMem} (h : CF w a b) : CPl w a b := ⟨h.1.mo (by simp), h.2⟩
theorem CTx.pl {μ μ' : zMem} {Z : Zt} {F : Option (List Cls)} {A : Lg} {w : Int → Int} (h : CTx μ Z F A w) (h1 : CPl w μ μ') : CTx μ' Z F A w := h.k (fun c hc => h1.1 c (by simp only [List.mem_cons, List.not_mem_nil, or_false]; omega)) h1.2
theorem nk_5_1 : zNk 5 1 = none := rfl
theorem nk_5_0 : zNk 5 0 = none := rfl
def y_Pl_move : zMt := (⟨"DebtDoors$Plan", "move", "(III)V"⟩, prog_7_method_9_code, 4, none)
theorem d_Pl_move_0 : decode prog_7_method_9_code 0 = .ok (.aload_n 0, 1) := by decide +kernel
theorem d_Pl_move_1 : decode prog_7_method_9_code 1 = .ok (.getfield 15, 3) := by decide +kernel
theorem d_Pl_move_4 : decode prog_7_method_9_code 4 = .ok (.iload_n 1, 1) := by decide +kernel
theorem d_Pl_move_5 : decode prog_7_method_9_code 5 = .ok (.dup2, 1) := by decide +kernel
theorem d_Pl_move_6 : decode prog_7_method_9_code 6 = .ok (.iaload, 1) := by decide +kernel
theorem d_Pl_move_7 : decode prog_7_method_9_code 7 = .ok (.iload_n 3, 1) := by decide +kernel
theorem d_Pl_move_8 : decode prog_7_method_9_code 8 = .ok (.isub, 1) := by decide +kernel
theorem d_Pl_move_9 : decode prog_7_method_9_code 9 = .ok (.iastore, 1) := by decide +kernel
theorem d_Pl_move_10 : decode prog_7_method_9_code 10 = .ok (.aload_n 0, 1) := by decide +kernel
theorem d_Pl_move_11 : decode prog_7_method_9_code 11 = .ok (.getfield 15, 3) := by decide +kernel
theorem d_Pl_move_14 : decode prog_7_method_9_code 14 = .ok (.iload_n 2, 1) := by decide +kernel
theorem d_Pl_move_15 : decode prog_7_method_9_code 15 = .ok (.dup2, 1) := by decide +kernel
theorem d_Pl_move_16 : decode prog_7_method_9_code 16 = .ok (.iaload, 1) := by decide +kernel
theorem d_Pl_move_17 : decode prog_7_method_9_code 17 = .ok (.iload_n 3, 1) := by decide +kernel
theorem d_Pl_move_18 : decode prog_7_method_9_code 18 = .ok (.iadd, 1) := by decide +kernel
theorem d_Pl_move_19 : decode prog_7_method_9_code 19 = .ok (.iastore, 1) := by decide +kernel
theorem d_Pl_move_20 : decode prog_7_method_9_code 20 = .ok (.aload_n 0, 1) := by decide +kernel
theorem d_Pl_move_21 : decode prog_7_method_9_code 21 = .ok (.getfield 9, 3) := by decide +kernel
theorem d_Pl_move_24 : decode prog_7_method_9_code 24 = .ok (.iload_n 1, 1) := by decide +kernel
theorem d_Pl_move_25 : decode prog_7_method_9_code 25 = .ok (.bipush 7, 2) := by decide +kernel
theorem d_Pl_move_27 : decode prog_7_method_9_code 27 = .ok (.imul, 1) := by decide +kernel
theorem d_Pl_move_28 : decode prog_7_method_9_code 28 = .ok (.iload_n 2, 1) := by decide +kernel
theorem d_Pl_move_29 : decode prog_7_method_9_code 29 = .ok (.iadd, 1) := by decide +kernel
theorem d_Pl_move_30 : decode prog_7_method_9_code 30 = .ok (.dup2, 1) := by decide +kernel
theorem d_Pl_move_31 : decode prog_7_method_9_code 31 = .ok (.iaload, 1) := by decide +kernel
theorem d_Pl_move_32 : decode prog_7_method_9_code 32 = .ok (.iload_n 3, 1) := by decide +kernel
theorem d_Pl_move_33 : decode prog_7_method_9_code 33 = .ok (.isub, 1) := by decide +kernel
theorem d_Pl_move_34 : decode prog_7_method_9_code 34 = .ok (.iastore, 1) := by decide +kernel
theorem d_Pl_move_35 : decode prog_7_method_9_code 35 = .ok (.return_, 1) := by decide +kernel
def w_Pl_move {d : Nat} (hd : 1 ≤ d) := (show SS ("DebtDoors$Plan", prog_7_method_9_code, 4) (none) d 0 0 0 0 _ from (sS (p1 := 10) (sAo o_sub (rFr fl_Pl_15 nk_5_1 (rAn 0 d_Pl_move_0 rfl) d_Pl_move_1) (rIn 1 d_Pl_move_4 rfl) d_Pl_move_5 d_Pl_move_6 (rIn 3 d_Pl_move_7 rfl) d_Pl_move_8 d_Pl_move_9) (sS (p1 := 20) (sAo o_add (rFr fl_Pl_15 nk_5_1 (rAn 0 d_Pl_move_10 rfl) d_Pl_move_11) (rIn 2 d_Pl_move_14 rfl) d_Pl_move_15 d_Pl_move_16 (rIn 3 d_Pl_move_17 rfl) d_Pl_move_18 d_Pl_move_19) (sS (p1 := 35) (sAo o_sub (rFr fl_Pl_9 nk_5_0 (rAn 0 d_Pl_move_20 rfl) d_Pl_move_21) (r2 o_add (r2 o_mul (rIn 1 d_Pl_move_24 rfl) (rB d_Pl_move_25 rfl) d_Pl_move_27) (rIn 2 d_Pl_move_28 rfl) d_Pl_move_29) d_Pl_move_30 d_Pl_move_31 (rIn 3 d_Pl_move_32 rfl) d_Pl_move_33 d_Pl_move_34) (sRv d_Pl_move_35 rfl)))))
theorem km_Pl_95 : Cond.methodLink "DebtDoors$Plan" 95 Lib.Math.min.name ∈ zTb := (zTb_in 1160 (by decide +kernel) (by decide +kernel))
theorem nk_5_3 : zNk 5 3 = none := rfl
theorem m_Pl_move : Cond.instanceMethod y_Pl_move.1 ∈ zTb ∧ Cond.selects y_Pl_move.1.cls y_Pl_move.1 y_Pl_move.1 ∈ zTb ∧ Cond.initialized y_Pl_move.1.cls ∈ zTb ∧ Cond.code y_Pl_move.1 y_Pl_move.2.1 y_Pl_move.2.2.1 y_Pl_move.2.2.2 ∈ zTb ∧ (y_Pl_move.1.cls ≠ "java/lang/invoke/MethodHandle" ∧ y_Pl_move.1.cls ≠ "java/lang/invoke/VarHandle" ∧ (parseMethodDescriptor y_Pl_move.1.desc).map (fun d => d.parameters.length) = some 3) ∧ y_Pl_move.2.2.1 ≤ 20 :=
  ⟨(zTb_in 1163 (by decide +kernel) (by decide +kernel)), (List.mem_filter.mpr ⟨List.mem_append_left _ (by decide +kernel), by decide +kernel⟩), (zTb_in 147 (by decide +kernel) (by decide +kernel)), (zTb_in 1164 (by decide +kernel) (by decide +kernel)), by decide +kernel, by decide +kernel⟩
theorem lv_Pl_100 : zLv "DebtDoors$Plan" 100 y_Pl_move 3 5 := ⟨⟨(zTb_in 1161 (by decide +kernel) (by decide +kernel)), m_Pl_move.1, m_Pl_move.2.1, m_Pl_move.2.2⟩, _, rfl, rfl⟩
def y_Pl_settle : zMt := (⟨"DebtDoors$Plan", "settle", "([II)V"⟩, prog_7_method_7_code, 6, none)
theorem d_Pl_settle_0 : decode prog_7_method_7_code 0 = .ok (.aload_n 1, 1) := by decide +kernel
theorem d_Pl_settle_1 : decode prog_7_method_7_code 1 = .ok (.iconst 1, 1) := by decide +kernel
theorem d_Pl_settle_2 : decode prog_7_method_7_code 2 = .ok (.iaload, 1) := by decide +kernel
theorem d_Pl_settle_3 : decode prog_7_method_7_code 3 = .ok (.istore_n 3, 1) := by decide +kernel
theorem d_Pl_settle_4 : decode prog_7_method_7_code 4 = .ok (.aload_n 1, 1) := by decide +kernel
theorem d_Pl_settle_5 : decode prog_7_method_7_code 5 = .ok (.iconst 0, 1) := by decide +kernel
theorem d_Pl_settle_6 : decode prog_7_method_7_code 6 = .ok (.iaload, 1) := by decide +kernel
theorem d_Pl_settle_7 : decode prog_7_method_7_code 7 = .ok (.istore 4, 2) := by decide +kernel
theorem d_Pl_settle_9 : decode prog_7_method_7_code 9 = .ok (.aload_n 0, 1) := by decide +kernel
theorem d_Pl_settle_10 : decode prog_7_method_7_code 10 = .ok (.getfield 15, 3) := by decide +kernel
theorem d_Pl_settle_13 : decode prog_7_method_7_code 13 = .ok (.iload_n 3, 1) := by decide +kernel
theorem d_Pl_settle_14 : decode prog_7_method_7_code 14 = .ok (.iaload, 1) := by decide +kernel
theorem d_Pl_settle_15 : decode prog_7_method_7_code 15 = .ok (.sipush 9999, 3) := by decide +kernel
theorem d_Pl_settle_18 : decode prog_7_method_7_code 18 = .ok (.aload_n 0, 1) := by decide +kernel
theorem d_Pl_settle_19 : decode prog_7_method_7_code 19 = .ok (.getfield 15, 3) := by decide +kernel
theorem d_Pl_settle_22 : decode prog_7_method_7_code 22 = .ok (.iload 4, 2) := by decide +kernel
theorem d_Pl_settle_24 : decode prog_7_method_7_code 24 = .ok (.iaload, 1) := by decide +kernel
theorem d_Pl_settle_25 : decode prog_7_method_7_code 25 = .ok (.isub, 1) := by decide +kernel
theorem d_Pl_settle_26 : decode prog_7_method_7_code 26 = .ok (.invokestatic 95, 3) := by decide +kernel
theorem d_Pl_settle_29 : decode prog_7_method_7_code 29 = .ok (.istore 5, 2) := by decide +kernel
theorem d_Pl_settle_31 : decode prog_7_method_7_code 31 = .ok (.aload_n 0, 1) := by decide +kernel
theorem d_Pl_settle_32 : decode prog_7_method_7_code 32 = .ok (.getfield 21, 3) := by decide +kernel
theorem d_Pl_settle_35 : decode prog_7_method_7_code 35 = .ok (.iload_n 2, 1) := by decide +kernel
theorem d_Pl_settle_36 : decode prog_7_method_7_code 36 = .ok (.aload_n 1, 1) := by decide +kernel
theorem d_Pl_settle_37 : decode prog_7_method_7_code 37 = .ok (.iconst 3, 1) := by decide +kernel
theorem d_Pl_settle_38 : decode prog_7_method_7_code 38 = .ok (.iaload, 1) := by decide +kernel
theorem d_Pl_settle_39 : decode prog_7_method_7_code 39 = .ok (.iload 5, 2) := by decide +kernel
theorem d_Pl_settle_41 : decode prog_7_method_7_code 41 = .ok (.invokestatic 95, 3) := by decide +kernel
theorem d_Pl_settle_44 : decode prog_7_method_7_code 44 = .ok (.aload_n 0, 1) := by decide +kernel
theorem d_Pl_settle_45 : decode prog_7_method_7_code 45 = .ok (.getfield 9, 3) := by decide +kernel
theorem d_Pl_settle_48 : decode prog_7_method_7_code 48 = .ok (.iload_n 3, 1) := by decide +kernel
theorem d_Pl_settle_49 : decode prog_7_method_7_code 49 = .ok (.bipush 7, 2) := by decide +kernel
theorem d_Pl_settle_51 : decode prog_7_method_7_code 51 = .ok (.imul, 1) := by decide +kernel
theorem d_Pl_settle_52 : decode prog_7_method_7_code 52 = .ok (.iload 4, 2) := by decide +kernel
theorem d_Pl_settle_54 : decode prog_7_method_7_code 54 = .ok (.iadd, 1) := by decide +kernel
theorem d_Pl_settle_55 : decode prog_7_method_7_code 55 = .ok (.iaload, 1) := by decide +kernel
theorem d_Pl_settle_56 : decode prog_7_method_7_code 56 = .ok (.invokestatic 95, 3) := by decide +kernel
theorem d_Pl_settle_59 : decode prog_7_method_7_code 59 = .ok (.iastore, 1) := by decide +kernel
theorem d_Pl_settle_60 : decode prog_7_method_7_code 60 = .ok (.aload_n 0, 1) := by decide +kernel
theorem d_Pl_settle_61 : decode prog_7_method_7_code 61 = .ok (.iload_n 3, 1) := by decide +kernel
theorem d_Pl_settle_62 : decode prog_7_method_7_code 62 = .ok (.iload 4, 2) := by decide +kernel
theorem d_Pl_settle_64 : decode prog_7_method_7_code 64 = .ok (.aload_n 0, 1) := by decide +kernel
theorem d_Pl_settle_65 : decode prog_7_method_7_code 65 = .ok (.getfield 21, 3) := by decide +kernel
theorem d_Pl_settle_68 : decode prog_7_method_7_code 68 = .ok (.iload_n 2, 1) := by decide +kernel
theorem d_Pl_settle_69 : decode prog_7_method_7_code 69 = .ok (.iaload, 1) := by decide +kernel
theorem d_Pl_settle_70 : decode prog_7_method_7_code 70 = .ok (.invokevirtual 100, 3) := by decide +kernel
theorem d_Pl_settle_73 : decode prog_7_method_7_code 73 = .ok (.return_, 1) := by decide +kernel
def w_Pl_settle {d : Nat} (hd : 3 ≤ d) := (show SS ("DebtDoors$Plan", prog_7_method_7_code, 6) (none) d 0 0 0 0 _ from (sS (p1 := 4) (sIn 3 (xE (rIa (rAn 1 d_Pl_settle_0 rfl) (rI d_Pl_settle_1 rfl) d_Pl_settle_2)) d_Pl_settle_3 rfl (by decide)) (sS (p1 := 9) (sI (xE (rIa (rAn 1 d_Pl_settle_4 rfl) (rI d_Pl_settle_5 rfl) d_Pl_settle_6)) d_Pl_settle_7 (by decide)) (sS (p1 := 31) (sI (xE (rMin km_Pl_95 (rIa (rFr fl_Pl_15 nk_5_1 (rAn 0 d_Pl_settle_9 rfl) d_Pl_settle_10) (rIn 3 d_Pl_settle_13 rfl) d_Pl_settle_14) (r2 o_sub (rSi d_Pl_settle_15 rfl) (rIa (rFr fl_Pl_15 nk_5_1 (rAn 0 d_Pl_settle_18 rfl) d_Pl_settle_19) (rIl d_Pl_settle_22) d_Pl_settle_24) d_Pl_settle_25) (by decide) (Nat.le_trans (Nat.le_of_ble_eq_true rfl) hd) d_Pl_settle_26)) d_Pl_settle_29 (by decide)) (sS (p1 := 60) (sAs (rFr fl_Pl_21 nk_5_3 (rAn 0 d_Pl_settle_31 rfl) d_Pl_settle_32) (rIn 2 d_Pl_settle_35 rfl) (xE (rMin km_Pl_95 (rMin km_Pl_95 (rIa (rAn 1 d_Pl_settle_36 rfl) (rI d_Pl_settle_37 rfl) d_Pl_settle_38) (rIl d_Pl_settle_39) (by decide) (Nat.le_trans (Nat.le_of_ble_eq_true rfl) hd) d_Pl_settle_41) (rIa (rFr fl_Pl_9 nk_5_0 (rAn 0 d_Pl_settle_44 rfl) d_Pl_settle_45) (r2 o_add (r2 o_mul (rIn 3 d_Pl_settle_48 rfl) (rB d_Pl_settle_49 rfl) d_Pl_settle_51) (rIl d_Pl_settle_52) d_Pl_settle_54) d_Pl_settle_55) (by decide) (Nat.le_trans (Nat.le_of_ble_eq_true rfl) hd) d_Pl_settle_56)) d_Pl_settle_59) (sS (p1 := 73) (sV (xVv lv_Pl_100 (xA (rAi (rAi (rAi (rAr rA0 (rAn 0 d_Pl_settle_60 rfl)) (rIn 3 d_Pl_settle_61 rfl)) (rIl d_Pl_settle_62)) (rIa (rFr fl_Pl_21 nk_5_3 (rAn 0 d_Pl_settle_64 rfl) d_Pl_settle_65) (rIn 2 d_Pl_settle_68 rfl) d_Pl_settle_69))) (by decide) d_Pl_settle_70)) (sRv d_Pl_settle_73 rfl)))))))
def y_Pl_unsettle : zMt := (⟨"DebtDoors$Plan", "unsettle", "([II)V"⟩, prog_7_method_8_code, 3, none)
theorem d_Pl_unsettle_0 : decode prog_7_method_8_code 0 = .ok (.aload_n 0, 1) := by decide +kernel
theorem d_Pl_unsettle_1 : decode prog_7_method_8_code 1 = .ok (.aload_n 1, 1) := by decide +kernel
theorem d_Pl_unsettle_2 : decode prog_7_method_8_code 2 = .ok (.iconst 1, 1) := by decide +kernel
theorem d_Pl_unsettle_3 : decode prog_7_method_8_code 3 = .ok (.iaload, 1) := by decide +kernel
theorem d_Pl_unsettle_4 : decode prog_7_method_8_code 4 = .ok (.aload_n 1, 1) := by decide +kernel
theorem d_Pl_unsettle_5 : decode prog_7_method_8_code 5 = .ok (.iconst 0, 1) := by decide +kernel
theorem d_Pl_unsettle_6 : decode prog_7_method_8_code 6 = .ok (.iaload, 1) := by decide +kernel
theorem d_Pl_unsettle_7 : decode prog_7_method_8_code 7 = .ok (.aload_n 0, 1) := by decide +kernel
theorem d_Pl_unsettle_8 : decode prog_7_method_8_code 8 = .ok (.getfield 21, 3) := by decide +kernel
theorem d_Pl_unsettle_11 : decode prog_7_method_8_code 11 = .ok (.iload_n 2, 1) := by decide +kernel
theorem d_Pl_unsettle_12 : decode prog_7_method_8_code 12 = .ok (.iaload, 1) := by decide +kernel
theorem d_Pl_unsettle_13 : decode prog_7_method_8_code 13 = .ok (.ineg, 1) := by decide +kernel
theorem d_Pl_unsettle_14 : decode prog_7_method_8_code 14 = .ok (.invokevirtual 100, 3) := by decide +kernel
theorem d_Pl_unsettle_17 : decode prog_7_method_8_code 17 = .ok (.aload_n 0, 1) := by decide +kernel
theorem d_Pl_unsettle_18 : decode prog_7_method_8_code 18 = .ok (.getfield 21, 3) := by decide +kernel
theorem d_Pl_unsettle_21 : decode prog_7_method_8_code 21 = .ok (.iload_n 2, 1) := by decide +kernel
theorem d_Pl_unsettle_22 : decode prog_7_method_8_code 22 = .ok (.iconst 0, 1) := by decide +kernel
theorem d_Pl_unsettle_23 : decode prog_7_method_8_code 23 = .ok (.iastore, 1) := by decide +kernel
theorem d_Pl_unsettle_24 : decode prog_7_method_8_code 24 = .ok (.return_, 1) := by decide +kernel
def w_Pl_unsettle {d : Nat} (hd : 1 ≤ d) := (show SS ("DebtDoors$Plan", prog_7_method_8_code, 3) (none) d 0 0 0 0 _ from (sS (p1 := 17) (sV (xVv lv_Pl_100 (xA (rAi (rAi (rAi (rAr rA0 (rAn 0 d_Pl_unsettle_0 rfl)) (rIa (rAn 1 d_Pl_unsettle_1 rfl) (rI d_Pl_unsettle_2 rfl) d_Pl_unsettle_3)) (rIa (rAn 1 d_Pl_unsettle_4 rfl) (rI d_Pl_unsettle_5 rfl) d_Pl_unsettle_6)) (rNg (rIa (rFr fl_Pl_21 nk_5_3 (rAn 0 d_Pl_unsettle_7 rfl) d_Pl_unsettle_8) (rIn 2 d_Pl_unsettle_11 rfl) d_Pl_unsettle_12) d_Pl_unsettle_13))) (by decide) d_Pl_unsettle_14)) (sS (p1 := 24) (sAs (rFr fl_Pl_21 nk_5_3 (rAn 0 d_Pl_unsettle_17 rfl) d_Pl_unsettle_18) (rIn 2 d_Pl_unsettle_21 rfl) (xE (rI d_Pl_unsettle_22 rfl)) d_Pl_unsettle_23) (sRv d_Pl_unsettle_24 rfl))))
theorem lv_Pl_89 : zLv "DebtDoors$Plan" 89 y_Ru_depth 5 7 := ⟨⟨(zTb_in 1155 (by decide +kernel) (by decide +kernel)), m_Ru_depth.1, m_Ru_depth.2.1, m_Ru_depth.2.2⟩, _, rfl, rfl⟩
def y_Pl_getsIn : zMt := (⟨"DebtDoors$Plan", "getsIn", "(LDebtDoors$Town;LDebtDoors$Rules;[I)Z"⟩, prog_7_method_6_code, 8, some .boolean)
theorem d_Pl_getsIn_0 : decode prog_7_method_6_code 0 = .ok (.aload_n 3, 1) := by decide +kernel
theorem d_Pl_getsIn_1 : decode prog_7_method_6_code 1 = .ok (.iconst 1, 1) := by decide +kernel
theorem d_Pl_getsIn_2 : decode prog_7_method_6_code 2 = .ok (.iaload, 1) := by decide +kernel
theorem d_Pl_getsIn_3 : decode prog_7_method_6_code 3 = .ok (.istore 4, 2) := by decide +kernel
theorem d_Pl_getsIn_5 : decode prog_7_method_6_code 5 = .ok (.aload_n 3, 1) := by decide +kernel
theorem d_Pl_getsIn_6 : decode prog_7_method_6_code 6 = .ok (.iconst 0, 1) := by decide +kernel
theorem d_Pl_getsIn_7 : decode prog_7_method_6_code 7 = .ok (.iaload, 1) := by decide +kernel
theorem d_Pl_getsIn_8 : decode prog_7_method_6_code 8 = .ok (.istore 5, 2) := by decide +kernel
theorem d_Pl_getsIn_10 : decode prog_7_method_6_code 10 = .ok (.aload_n 0, 1) := by decide +kernel
theorem d_Pl_getsIn_11 : decode prog_7_method_6_code 11 = .ok (.getfield 9, 3) := by decide +kernel
theorem d_Pl_getsIn_14 : decode prog_7_method_6_code 14 = .ok (.iload 4, 2) := by decide +kernel
theorem d_Pl_getsIn_16 : decode prog_7_method_6_code 16 = .ok (.bipush 7, 2) := by decide +kernel
theorem d_Pl_getsIn_18 : decode prog_7_method_6_code 18 = .ok (.imul, 1) := by decide +kernel
theorem d_Pl_getsIn_19 : decode prog_7_method_6_code 19 = .ok (.iload 5, 2) := by decide +kernel
theorem d_Pl_getsIn_21 : decode prog_7_method_6_code 21 = .ok (.iadd, 1) := by decide +kernel
theorem d_Pl_getsIn_22 : decode prog_7_method_6_code 22 = .ok (.iaload, 1) := by decide +kernel
theorem d_Pl_getsIn_23 : decode prog_7_method_6_code 23 = .ok (.istore 6, 2) := by decide +kernel
theorem d_Pl_getsIn_25 : decode prog_7_method_6_code 25 = .ok (.aload_n 0, 1) := by decide +kernel
theorem d_Pl_getsIn_26 : decode prog_7_method_6_code 26 = .ok (.getfield 9, 3) := by decide +kernel
theorem d_Pl_getsIn_29 : decode prog_7_method_6_code 29 = .ok (.iload 5, 2) := by decide +kernel
theorem d_Pl_getsIn_31 : decode prog_7_method_6_code 31 = .ok (.bipush 7, 2) := by decide +kernel
theorem d_Pl_getsIn_33 : decode prog_7_method_6_code 33 = .ok (.imul, 1) := by decide +kernel
theorem d_Pl_getsIn_34 : decode prog_7_method_6_code 34 = .ok (.iload 4, 2) := by decide +kernel
theorem d_Pl_getsIn_36 : decode prog_7_method_6_code 36 = .ok (.iadd, 1) := by decide +kernel
theorem d_Pl_getsIn_37 : decode prog_7_method_6_code 37 = .ok (.iaload, 1) := by decide +kernel
theorem d_Pl_getsIn_38 : decode prog_7_method_6_code 38 = .ok (.istore 7, 2) := by decide +kernel
theorem d_Pl_getsIn_40 : decode prog_7_method_6_code 40 = .ok (.aload_n 2, 1) := by decide +kernel
theorem d_Pl_getsIn_41 : decode prog_7_method_6_code 41 = .ok (.aload_n 1, 1) := by decide +kernel
theorem d_Pl_getsIn_42 : decode prog_7_method_6_code 42 = .ok (.iload 4, 2) := by decide +kernel
theorem d_Pl_getsIn_44 : decode prog_7_method_6_code 44 = .ok (.iload 5, 2) := by decide +kernel
theorem d_Pl_getsIn_46 : decode prog_7_method_6_code 46 = .ok (.iload 6, 2) := by decide +kernel
theorem d_Pl_getsIn_48 : decode prog_7_method_6_code 48 = .ok (.iload 7, 2) := by decide +kernel
theorem d_Pl_getsIn_50 : decode prog_7_method_6_code 50 = .ok (.invokevirtual 89, 3) := by decide +kernel
theorem d_Pl_getsIn_53 : decode prog_7_method_6_code 53 = .ok (.aload_n 3, 1) := by decide +kernel
theorem d_Pl_getsIn_54 : decode prog_7_method_6_code 54 = .ok (.iconst 2, 1) := by decide +kernel
theorem d_Pl_getsIn_55 : decode prog_7_method_6_code 55 = .ok (.iaload, 1) := by decide +kernel
theorem d_Pl_getsIn_56 : decode prog_7_method_6_code 56 = .ok (.if_icmp .lt 7, 3) := by decide +kernel
theorem d_Pl_getsIn_59 : decode prog_7_method_6_code 59 = .ok (.iconst 1, 1) := by decide +kernel
theorem d_Pl_getsIn_60 : decode prog_7_method_6_code 60 = .ok (.goto 4, 3) := by decide +kernel
theorem d_Pl_getsIn_63 : decode prog_7_method_6_code 63 = .ok (.iconst 0, 1) := by decide +kernel
theorem d_Pl_getsIn_64 : decode prog_7_method_6_code 64 = .ok (.ireturn, 1) := by decide +kernel
def w_Pl_getsIn {d : Nat} (hd : 1 ≤ d) := (show SS ("DebtDoors$Plan", prog_7_method_6_code, 8) (some .boolean) d 0 0 0 0 _ from (sS (p1 := 5) (sI (xE (rIa (rAn 3 d_Pl_getsIn_0 rfl) (rI d_Pl_getsIn_1 rfl) d_Pl_getsIn_2)) d_Pl_getsIn_3 (by decide)) (sS (p1 := 10) (sI (xE (rIa (rAn 3 d_Pl_getsIn_5 rfl) (rI d_Pl_getsIn_6 rfl) d_Pl_getsIn_7)) d_Pl_getsIn_8 (by decide)) (sS (p1 := 25) (sI (xE (rIa (rFr fl_Pl_9 nk_5_0 (rAn 0 d_Pl_getsIn_10 rfl) d_Pl_getsIn_11) (r2 o_add (r2 o_mul (rIl d_Pl_getsIn_14) (rB d_Pl_getsIn_16 rfl) d_Pl_getsIn_18) (rIl d_Pl_getsIn_19) d_Pl_getsIn_21) d_Pl_getsIn_22)) d_Pl_getsIn_23 (by decide)) (sS (p1 := 40) (sI (xE (rIa (rFr fl_Pl_9 nk_5_0 (rAn 0 d_Pl_getsIn_25 rfl) d_Pl_getsIn_26) (r2 o_add (r2 o_mul (rIl d_Pl_getsIn_29) (rB d_Pl_getsIn_31 rfl) d_Pl_getsIn_33) (rIl d_Pl_getsIn_34) d_Pl_getsIn_36) d_Pl_getsIn_37)) d_Pl_getsIn_38 (by decide)) (sRz (xTb (xNot (xJ2 (tgt := 63) j_lt (xV lv_Pl_89 (xA (rAi (rAi (rAi (rAi (rAr (rAr rA0 (rAn 2 d_Pl_getsIn_40 rfl)) (rAn 1 d_Pl_getsIn_41 rfl)) (rIl d_Pl_getsIn_42)) (rIl d_Pl_getsIn_44)) (rIl d_Pl_getsIn_46)) (rIl d_Pl_getsIn_48))) (by decide) d_Pl_getsIn_50) (xE (rIa (rAn 3 d_Pl_getsIn_53 rfl) (rI d_Pl_getsIn_54 rfl) d_Pl_getsIn_55)) d_Pl_getsIn_56 (by decide))) (rGoE (p2 := 64) (rI d_Pl_getsIn_59 rfl) d_Pl_getsIn_60 (by decide)) (rI d_Pl_getsIn_63 rfl)) d_Pl_getsIn_64 rfl))))))
theorem fl_Pl_49 : zFl "DebtDoors$Plan" 49 5 7 := ⟨_, rfl, by decide, (zTb_in 435 (by decide +kernel) (by decide +kernel)), rfl⟩
theorem nk_5_7 : zNk 5 7 = some 1 := rfl
theorem fp_5_7 : zFp 5 7 1 := ⟨_, rfl, rfl, rfl, by decide⟩
theorem ka_Pl_83 : Cond.methodLink "DebtDoors$Plan" 83 arraycopyName ∈ zTb := (zTb_in 1146 (by decide +kernel) (by decide +kernel))
theorem nk_5_2 : zNk 5 2 = none := rfl
theorem nk_5_8 : zNk 5 8 = none := rfl
def y_Pl_keepFirst : zMt := (⟨"DebtDoors$Plan", "keepFirst", "()V"⟩, prog_7_method_4_code, 1, none)
theorem d_Pl_keepFirst_0 : decode prog_7_method_4_code 0 = .ok (.aload_n 0, 1) := by decide +kernel
theorem d_Pl_keepFirst_1 : decode prog_7_method_4_code 1 = .ok (.getfield 49, 3) := by decide +kernel
theorem d_Pl_keepFirst_4 : decode prog_7_method_4_code 4 = .ok (.ifCond .ne 23, 3) := by decide +kernel
theorem d_Pl_keepFirst_7 : decode prog_7_method_4_code 7 = .ok (.aload_n 0, 1) := by decide +kernel
theorem d_Pl_keepFirst_8 : decode prog_7_method_4_code 8 = .ok (.iconst 1, 1) := by decide +kernel
theorem d_Pl_keepFirst_9 : decode prog_7_method_4_code 9 = .ok (.putfield 49, 3) := by decide +kernel
theorem d_Pl_keepFirst_12 : decode prog_7_method_4_code 12 = .ok (.aload_n 0, 1) := by decide +kernel
theorem d_Pl_keepFirst_13 : decode prog_7_method_4_code 13 = .ok (.getfield 18, 3) := by decide +kernel
theorem d_Pl_keepFirst_16 : decode prog_7_method_4_code 16 = .ok (.iconst 0, 1) := by decide +kernel
theorem d_Pl_keepFirst_17 : decode prog_7_method_4_code 17 = .ok (.aload_n 0, 1) := by decide +kernel
theorem d_Pl_keepFirst_18 : decode prog_7_method_4_code 18 = .ok (.getfield 34, 3) := by decide +kernel
theorem d_Pl_keepFirst_21 : decode prog_7_method_4_code 21 = .ok (.iconst 0, 1) := by decide +kernel
theorem d_Pl_keepFirst_22 : decode prog_7_method_4_code 22 = .ok (.bipush 8, 2) := by decide +kernel
theorem d_Pl_keepFirst_24 : decode prog_7_method_4_code 24 = .ok (.invokestatic 83, 3) := by decide +kernel
theorem d_Pl_keepFirst_27 : decode prog_7_method_4_code 27 = .ok (.return_, 1) := by decide +kernel
def w_Pl_keepFirst {d : Nat} (hd : 3 ≤ d) := (show SS ("DebtDoors$Plan", prog_7_method_4_code, 1) (none) d 0 0 0 0 _ from (sS (p1 := 27) (sIf (pn := 27) (tt := 7) (xC (rNot (rJ1 (tgt := 27) k_ne (rF 7 fl_Pl_49 nk_5_7 (rAn 0 d_Pl_keepFirst_0 rfl) d_Pl_keepFirst_1 rfl) d_Pl_keepFirst_4 (by decide)))) (sS (p1 := 12) (sP 7 fl_Pl_49 fp_5_7 nk_5_7 (rAn 0 d_Pl_keepFirst_7 rfl) (xE (rI d_Pl_keepFirst_8 rfl)) d_Pl_keepFirst_9 rfl) (sCp ka_Pl_83 (rFr fl_Pl_18 nk_5_2 (rAn 0 d_Pl_keepFirst_12 rfl) d_Pl_keepFirst_13) (rI d_Pl_keepFirst_16 rfl) (rFr fl_Pl_34 nk_5_8 (rAn 0 d_Pl_keepFirst_17 rfl) d_Pl_keepFirst_18) (rI d_Pl_keepFirst_21 rfl) (rB d_Pl_keepFirst_22 rfl) (Nat.le_trans (Nat.le_of_ble_eq_true rfl) hd) d_Pl_keepFirst_24))) (sRv d_Pl_keepFirst_27 rfl)))
theorem q_Pl_move {d : Nat} (hd : 1 ≤ d) {μ : zMem} {h v m : Int} (hh : 0 ≤ h ∧ h < 7) (hv : 0 ≤ v ∧ v < 7) (hne : h ≠ v) (h1 : -1000000 ≤ μ 336 h ∧ μ 336 h ≤ 1000000) (h2 : -1000000 ≤ μ 336 v ∧ μ 336 v ≤ 1000000) (h3 : -1000000 ≤ μ 335 (h * 7 + v) ∧ μ 335 (h * 7 + v) ≤ 1000000) (h4 : -1000000 ≤ m ∧ m ≤ 1000000) : zSp d 0 0 y_Pl_move zT0 [vr 334, vi h, vi v, vi m] μ zT0 (fun q μ' => q = none ∧ μ' = zm (zm (zm μ 336 h (μ 336 h - m)) 336 v (μ 336 v + m)) 335 (h * 7 + v) (μ 335 (h * 7 + v) - m)) := by
  refine zSp.ss [vr 334, vi h, vi v, vi m] rfl (w_Pl_move hd) rfl rfl ?_
  (try simp only [zit_e, Bool.and_eq_true, Bool.or_eq_true, Bool.not_eq_true', Bool.and_eq_false_iff, Bool.or_eq_false_iff, Bool.not_eq_false', zbe, zdt, zdf, zb2_p, zbp_0, zbp_1, zbp_inj, zbp_01, Bool.true_eq_false, Bool.false_eq_true, true_and, and_true, Decidable.not_not, Classical.not_not, implies_true, List.nil_append, List.cons_append, List.append_assoc, Option.some.injEq, Sum.inl.injEq, zSw_c, zSw_n]); (try simp only [zit_e, Bool.and_eq_true, Bool.or_eq_true, Bool.not_eq_true', Bool.and_eq_false_iff, Bool.or_eq_false_iff, Bool.not_eq_false', zbe, zdt, zdf, zb2_p, zbp_0, zbp_1, zbp_inj, zbp_01, Bool.true_eq_false, Bool.false_eq_true, true_and, and_true, Decidable.not_not, Classical.not_not, implies_true, List.nil_append, List.cons_append, List.append_assoc, Option.some.injEq, Sum.inl.injEq, zSw_c, zSw_n, zc_334]); (try simp only [zi_cs, zi_c0, zii_cs, zii_c0, zl_cs, zl_c0, zll_cs, zll_c0, zr_cs, zr_c0, zrr_cs, zrr_c0, zxs_cs, zxs_c0, zxx_cs, zxx_c0, zfree_c0, zfree_c1, zfree_cs, zfree_cz, zlong_i, zlong_r, zlong_x, zset_0, zset_s, true_and, and_true, Option.some.injEq, Sum.inl.injEq, Sum.inr.injEq, zb2_p, zbp_0, zbp_1, zbp_inj, zbp_01, Nat.zero_add, Nat.reduceAdd, implies_true, List.nil_append, List.cons_append, List.append_assoc, Int.not_lt, Int.not_le, Decidable.not_not, Int.zero_add, Int.reduceLE, Int.reduceLT, Int.reduceEq, Int.reduceNe, Int.reduceAdd, Int.reduceSub, Int.reduceMul, Int.reduceNeg, Int.reduceToNat, Nat.reduceMul, Nat.reduceLT, Nat.reduceEqDiff, and_self, ite_true, ite_false, zx1, zx2, zRecv, List.length_cons, List.length_nil, ne_eq, not_true_eq_false, not_false_eq_true, true_or, or_true, or_false, false_or, and_false, false_and, zf01, zf10, reduceCtorEq, zSw_c, zSw_n, zm_r, zit_T, zit_F, false_implies, true_implies, zc_334])
  (repeat (first | rw [zit_f (by omega)] | rw [zit_t (by omega)]))
  exact ⟨by omega, by omega, by ((try simp only [zI_e]); (first | done | omega | skip)), by omega, by omega, by ((try simp only [zI_e]); (first | done | omega | skip)), ⟨by ((try simp only [zI_e]); (first | done | omega | skip)), by ((try simp only [zI_e]); (first | done | omega | skip))⟩, by omega, by omega, by ((try simp only [zI_e]); (first | done | omega | skip)), rfl⟩
theorem PlS.mv {A : Lg} {V : List D4} {Q R : Int → Int} {μ : zMem} {h v m : Int} (hh : 0 ≤ h ∧ h < 7) (hv : 0 ≤ v ∧ v < 7) (hne : h ≠ v) (h1 : ∀ p : Int, 0 ≤ p → p < 7 → μ 336 p = puP A V Q p) (h2 : ∀ a b : Int, 0 ≤ a → a < 7 → 0 ≤ b → b < 7 → a ≠ b → μ 335 (a * 7 + b) = owP A V Q a b) (e1 : ∀ p, puP A V R p = puP A V Q p + (zit (v = p) m 0 - zit (h = p) m 0)) (e2 : ∀ a b, owP A V R a b = owP A V Q a b - zit (h = a ∧ v = b) m 0) : (∀ p : Int, 0 ≤ p → p < 7 → zm (zm (zm μ 336 h (μ 336 h - m)) 336 v (μ 336 v + m)) 335 (h * 7 + v) (μ 335 (h * 7 + v) - m) 336 p = puP A V R p) ∧ ∀ a b : Int, 0 ≤ a → a < 7 → 0 ≤ b → b < 7 → a ≠ b → zm (zm (zm μ 336 h (μ 336 h - m)) 336 v (μ 336 v + m)) 335 (h * 7 + v) (μ 335 (h * 7 + v) - m) 335 (a * 7 + b) = owP A V R a b := by
  refine ⟨fun p p0 p1 => ?_, fun a b a0 a1 b0 b1 ab => ?_⟩
  · rw [e1]
    by_cases c1 : p = v
    · subst c1
      rw [zm_o (by omega), zm_s, zit_t rfl, zit_f (by omega), h1 p p0 p1]
      omega
    · by_cases c2 : p = h
      · subst c2
        rw [zm_o (by omega), zm_o (by omega), zm_s, zit_f (by omega), zit_t rfl, h1 p p0 p1]
        omega
      · rw [zm_o (by omega), zm_o (by omega), zm_o (by omega), zit_f (by omega), zit_f (by omega), h1 p p0 p1]
        omega
  · rw [e2]
    by_cases c1 : h = a ∧ v = b
    · rw [zit_t c1, ← c1.1, ← c1.2, zm_s, h2 h v hh.1 hh.2 hv.1 hv.2 hne]
    · rw [zit_f c1, zm_o (by omega), zm_o (by omega), zm_o (by omega), h2 a b a0 a1 b0 b1 ab]
      omega
section ZPC
variable {Z : Zt} {F : Option (List Cls)} {A : Lg} {w : Int → Int} {V : List D4} {U : Int → Prop} {P : Int → Int} {μ : zMem} {d i : Nat}
theorem vC_in (hV : VCx 11 8 999 μ V) (hi : i < V.length) : i < 8 ∧ zkd (11 + i) = 0 ∧ zln (11 + i) = 4 ∧ zpa 10 (i : Int) = 11 + i ∧ (μ (11 + i) 0 = (dfV V i).1 ∧ μ (11 + i) 1 = (dfV V i).2.1 ∧ μ (11 + i) 2 = (dfV V i).2.2.1 ∧ μ (11 + i) 3 = (dfV V i).2.2.2) ∧ ok4 999 (dfV V i) := by
  have h8 := hV.1
  have hl := hV.l
  have hz := zpa10 (i := (i : Int)) (by omega) (by omega)
  have he := hV.e (k := (i : Int)) (by omega) (by omega)
  rw [Int.toNat_natCast] at hz he
  exact ⟨by omega, hz.2.1.1, hz.2.1.2, hz.1.1, he⟩
theorem q_Pl_settle (hd : 3 ≤ d) (hV : VCx 11 8 999 μ V) (hi : i < V.length) (hS : PlS A V U P μ) (hQ : okQ A V P) (h0 : P i = 0) : zSp d 0 0 y_Pl_settle zT0 [vr 334, vr (11 + i), vi i] μ zT0 (fun q μ' => q = none ∧ PlS A V (fun k => k = (i : Int) ∨ U k) (upF P i (plX A V P i)) μ' ∧ zfc [335, 336, 338] μ μ') := by
  obtain ⟨i8, z1, z2, z3, ⟨e0, e1, e2, e3⟩, o1, o2, o3, o4, o5⟩ := vC_in hV hi
  have hx := plX_in hQ hV.2.2 hi
  have u1 := hQ.1 (dfV V i).2.1 (by omega) (by omega)
  have u2 := hQ.1 (dfV V i).1 (by omega) (by omega)
  have u3 := hQ.2 (dfV V i).2.1 (dfV V i).1 (by omega) (by omega) (by omega) (by omega) (fun q => o3 q.symm)
  refine zSp.ss [vr 334, vr (11 + i), vi i, vx 0, vx 0, vx 0] rfl (w_Pl_settle (Nat.le_trans (by decide) hd)) rfl rfl ?_
  (try simp only [zit_e, Bool.and_eq_true, Bool.or_eq_true, Bool.not_eq_true', Bool.and_eq_false_iff, Bool.or_eq_false_iff, Bool.not_eq_false', zbe, zdt, zdf, zb2_p, zbp_0, zbp_1, zbp_inj, zbp_01, Bool.true_eq_false, Bool.false_eq_true, true_and, and_true, Decidable.not_not, Classical.not_not, implies_true, List.nil_append, List.cons_append, List.append_assoc, Option.some.injEq, Sum.inl.injEq, zSw_c, zSw_n]); (try simp only [zit_e, Bool.and_eq_true, Bool.or_eq_true, Bool.not_eq_true', Bool.and_eq_false_iff, Bool.or_eq_false_iff, Bool.not_eq_false', zbe, zdt, zdf, zb2_p, zbp_0, zbp_1, zbp_inj, zbp_01, Bool.true_eq_false, Bool.false_eq_true, true_and, and_true, Decidable.not_not, Classical.not_not, implies_true, List.nil_append, List.cons_append, List.append_assoc, Option.some.injEq, Sum.inl.injEq, zSw_c, zSw_n, zc_334, z1, z2]); (try simp only [zi_cs, zi_c0, zii_cs, zii_c0, zl_cs, zl_c0, zll_cs, zll_c0, zr_cs, zr_c0, zrr_cs, zrr_c0, zxs_cs, zxs_c0, zxx_cs, zxx_c0, zfree_c0, zfree_c1, zfree_cs, zfree_cz, zlong_i, zlong_r, zlong_x, zset_0, zset_s, true_and, and_true, Option.some.injEq, Sum.inl.injEq, Sum.inr.injEq, zb2_p, zbp_0, zbp_1, zbp_inj, zbp_01, Nat.zero_add, Nat.reduceAdd, implies_true, List.nil_append, List.cons_append, List.append_assoc, Int.not_lt, Int.not_le, Decidable.not_not, Int.zero_add, Int.reduceLE, Int.reduceLT, Int.reduceEq, Int.reduceNe, Int.reduceAdd, Int.reduceSub, Int.reduceMul, Int.reduceNeg, Int.reduceToNat, Nat.reduceMul, Nat.reduceLT, Nat.reduceEqDiff, and_self, ite_true, ite_false, zx1, zx2, zRecv, List.length_cons, List.length_nil, ne_eq, not_true_eq_false, not_false_eq_true, true_or, or_true, or_false, false_or, and_false, false_and, zf01, zf10, reduceCtorEq, zSw_c, zSw_n, zm_r, zit_T, zit_F, false_implies, true_implies, zc_334, z1, z2])
  rw [e0, e1, e3, hS.1 _ (by omega) (by omega), hS.1 _ (by omega) (by omega), hS.2.1 _ _ (by omega) (by omega) (by omega) (by omega) (fun q => o3 q.symm)]
  have ex : min (min (dfV V i).2.2.2 (min (puP A V P (dfV V i).2.1) (9999 - puP A V P (dfV V i).1))) (owP A V P (dfV V i).2.1 (dfV V i).1) = plX A V P i := rfl
  rw [ex]
  generalize plX A V P i = x at *
  refine ⟨⟨⟨by omega, by omega⟩, ⟨by omega, by omega⟩, by ((try simp only [zI_e]); (first | done | omega | skip))⟩, by omega, by omega, ⟨⟨by ((try simp only [zI_e]); (first | done | omega | skip)), by ((try simp only [zI_e]); (first | done | omega | skip))⟩, by omega, by omega⟩, ⟨by omega, by omega⟩, ?_⟩
  have k1 : ∀ p : Int, 0 ≤ p → p < 7 → zm μ 338 i x 336 p = puP A V P p := fun p p0 p1 => by rw [zm_off _ (by decide)]; exact hS.1 p p0 p1
  have k2 : ∀ a b : Int, 0 ≤ a → a < 7 → 0 ≤ b → b < 7 → a ≠ b → zm μ 338 i x 335 (a * 7 + b) = owP A V P a b := fun a b q1 q2 q3 q4 q5 => by rw [zm_off _ (by decide)]; exact hS.2.1 a b q1 q2 q3 q4 q5
  refine zCw.use (q_Pl_move (d := 1) (by decide) (h := (dfV V i).2.1) (v := (dfV V i).1) (m := x) (by omega) (by omega) (fun q => o3 q.symm) (by rw [k1 _ (by omega) (by omega)]; omega) (by rw [k1 _ (by omega) (by omega)]; omega) (by rw [k2 _ _ (by omega) (by omega) (by omega) (by omega) (fun q => o3 q.symm)]; omega) (by omega)) (by omega) (fun q μ2 e => ?_)
  obtain ⟨rfl, rfl⟩ := e
  have hm := PlS.mv (A := A) (V := V) (Q := P) (R := upF P i x) (μ := zm μ 338 i x) (h := (dfV V i).2.1) (v := (dfV V i).1) (m := x) (by omega) (by omega) (fun q => o3 q.symm) k1 k2 (fun p => puP_up h0 hi) (fun a b => owP_up h0 hi)
  refine ⟨rfl, ⟨hm.1, hm.2, fun j j0 j1 hu => ?_⟩, ((((zfc.rf (cs := [335, 336, 338])).zm (by decide)).zm (by decide)).zm (by decide)).zm (by decide)⟩
  rw [zm_off _ (by decide), zm_off _ (by decide), zm_off _ (by decide), zm_r, zit_t rfl]
  by_cases ej : j = i
  · rw [zit_t ej, ej, upF_s]
  · rw [zit_f ej, upF_o ej, hS.2.2 j j0 j1 (hu.resolve_left ej)]
theorem q_Pl_unsettle {x : Int} (hd : 2 ≤ d) (hV : VCx 11 8 999 μ V) (hi : i < V.length) (hS : PlS A V (fun k => k = (i : Int) ∨ U k) (upF P i x) μ) (hQ : okQ A V (upF P i x)) (hx : 0 ≤ x ∧ x ≤ 9999) (h0 : P i = 0) : zSp d 0 0 y_Pl_unsettle zT0 [vr 334, vr (11 + i), vi i] μ zT0 (fun q μ' => q = none ∧ PlS A V U P μ' ∧ zfc [335, 336, 338] μ μ') := by
  obtain ⟨i8, z1, z2, z3, ⟨e0, e1, e2, e3⟩, o1, o2, o3, o4, o5⟩ := vC_in hV hi
  have u1 := hQ.1 (dfV V i).2.1 (by omega) (by omega)
  have u2 := hQ.1 (dfV V i).1 (by omega) (by omega)
  have u3 := hQ.2 (dfV V i).2.1 (dfV V i).1 (by omega) (by omega) (by omega) (by omega) (fun q => o3 q.symm)
  have e338 : μ 338 (i : Int) = x := by rw [hS.2.2 i (by omega) (by omega) (Or.inl rfl), upF_s]
  refine zSp.ss [vr 334, vr (11 + i), vi i] rfl (w_Pl_unsettle (Nat.le_trans (by decide) hd)) rfl rfl ?_
  (try simp only [zit_e, Bool.and_eq_true, Bool.or_eq_true, Bool.not_eq_true', Bool.and_eq_false_iff, Bool.or_eq_false_iff, Bool.not_eq_false', zbe, zdt, zdf, zb2_p, zbp_0, zbp_1, zbp_inj, zbp_01, Bool.true_eq_false, Bool.false_eq_true, true_and, and_true, Decidable.not_not, Classical.not_not, implies_true, List.nil_append, List.cons_append, List.append_assoc, Option.some.injEq, Sum.inl.injEq, zSw_c, zSw_n]); (try simp only [zit_e, Bool.and_eq_true, Bool.or_eq_true, Bool.not_eq_true', Bool.and_eq_false_iff, Bool.or_eq_false_iff, Bool.not_eq_false', zbe, zdt, zdf, zb2_p, zbp_0, zbp_1, zbp_inj, zbp_01, Bool.true_eq_false, Bool.false_eq_true, true_and, and_true, Decidable.not_not, Classical.not_not, implies_true, List.nil_append, List.cons_append, List.append_assoc, Option.some.injEq, Sum.inl.injEq, zSw_c, zSw_n, zc_334, z1, z2]); (try simp only [zi_cs, zi_c0, zii_cs, zii_c0, zl_cs, zl_c0, zll_cs, zll_c0, zr_cs, zr_c0, zrr_cs, zrr_c0, zxs_cs, zxs_c0, zxx_cs, zxx_c0, zfree_c0, zfree_c1, zfree_cs, zfree_cz, zlong_i, zlong_r, zlong_x, zset_0, zset_s, true_and, and_true, Option.some.injEq, Sum.inl.injEq, Sum.inr.injEq, zb2_p, zbp_0, zbp_1, zbp_inj, zbp_01, Nat.zero_add, Nat.reduceAdd, implies_true, List.nil_append, List.cons_append, List.append_assoc, Int.not_lt, Int.not_le, Decidable.not_not, Int.zero_add, Int.reduceLE, Int.reduceLT, Int.reduceEq, Int.reduceNe, Int.reduceAdd, Int.reduceSub, Int.reduceMul, Int.reduceNeg, Int.reduceToNat, Nat.reduceMul, Nat.reduceLT, Nat.reduceEqDiff, and_self, ite_true, ite_false, zx1, zx2, zRecv, List.length_cons, List.length_nil, ne_eq, not_true_eq_false, not_false_eq_true, true_or, or_true, or_false, false_or, and_false, false_and, zf01, zf10, reduceCtorEq, zSw_c, zSw_n, zm_r, zit_T, zit_F, false_implies, true_implies, zc_334, z1, z2])
  rw [e0, e1, e338]
  refine ⟨⟨⟨by omega, by omega⟩, by ((try simp only [zI_e]); (first | done | omega | skip))⟩, ?_⟩
  refine zCw.use (q_Pl_move (d := 1) (by decide) (h := (dfV V i).2.1) (v := (dfV V i).1) (m := -x) (by omega) (by omega) (fun q => o3 q.symm) (by rw [hS.1 _ (by omega) (by omega)]; omega) (by rw [hS.1 _ (by omega) (by omega)]; omega) (by rw [hS.2.1 _ _ (by omega) (by omega) (by omega) (by omega) (fun q => o3 q.symm)]; omega) (by omega)) (by omega) (fun q μ2 e => ?_)
  obtain ⟨rfl, rfl⟩ := e
  have hm := PlS.mv (A := A) (V := V) (Q := upF P i x) (R := P) (μ := μ) (h := (dfV V i).2.1) (v := (dfV V i).1) (m := -x) (by omega) (by omega) (fun q => o3 q.symm) hS.1 hS.2.1 (fun p => by
    rw [puP_up h0 hi]
    unfold zit
    repeat' split
    all_goals omega) (fun a b => by
    rw [owP_up h0 hi]
    unfold zit
    repeat' split
    all_goals omega)
  refine ⟨rfl, by omega, by omega, ⟨fun p p0 p1 => by rw [zm_off _ (by decide)]; exact hm.1 p p0 p1, fun a b q1 q2 q3 q4 q5 => by rw [zm_off _ (by decide)]; exact hm.2 a b q1 q2 q3 q4 q5, fun j j0 j1 hu => ?_⟩, ((((zfc.rf (cs := [335, 336, 338])).zm (by decide)).zm (by decide)).zm (by decide)).zm (by decide)⟩
  rw [zm_r, zit_t rfl]
  by_cases ej : j = i
  · rw [zit_t ej, ej, h0]
  · rw [zit_f ej, zm_off _ (by decide), zm_off _ (by decide), zm_off _ (by decide), hS.2.2 j j0 j1 (Or.inr hu), upF_o ej]
theorem q_Pl_getsIn (hd : 7 ≤ d) (hC : CTx μ Z F A w) (hV : VCx 11 8 999 μ V) (hi : i < V.length) (hS : PlS A V U P μ) (hQ : okQ A V P) : zSp d 0 0 y_Pl_getsIn zT0 [vr 334, vr 1, vr 324, vr (11 + i)] μ zT0 (fun q μ' => q = some (vi (zbp (plD Z F A w V P i))) ∧ CF w μ μ') := by
  obtain ⟨i8, z1, z2, z3, ⟨e0, e1, e2, e3⟩, o1, o2, o3, o4, o5⟩ := vC_in hV hi
  have u3 := hQ.2 (dfV V i).2.1 (dfV V i).1 (by omega) (by omega) (by omega) (by omega) (fun q => o3 q.symm)
  have u4 := hQ.2 (dfV V i).1 (dfV V i).2.1 (by omega) (by omega) (by omega) (by omega) o3
  refine zSp.ss [vr 334, vr 1, vr 324, vr (11 + i), vx 0, vx 0, vx 0, vx 0] rfl (w_Pl_getsIn (Nat.le_trans (by decide) hd)) rfl rfl ?_
  (try simp only [zit_e, Bool.and_eq_true, Bool.or_eq_true, Bool.not_eq_true', Bool.and_eq_false_iff, Bool.or_eq_false_iff, Bool.not_eq_false', zbe, zdt, zdf, zb2_p, zbp_0, zbp_1, zbp_inj, zbp_01, Bool.true_eq_false, Bool.false_eq_true, true_and, and_true, Decidable.not_not, Classical.not_not, implies_true, List.nil_append, List.cons_append, List.append_assoc, Option.some.injEq, Sum.inl.injEq, zSw_c, zSw_n]); (try simp only [zit_e, Bool.and_eq_true, Bool.or_eq_true, Bool.not_eq_true', Bool.and_eq_false_iff, Bool.or_eq_false_iff, Bool.not_eq_false', zbe, zdt, zdf, zb2_p, zbp_0, zbp_1, zbp_inj, zbp_01, Bool.true_eq_false, Bool.false_eq_true, true_and, and_true, Decidable.not_not, Classical.not_not, implies_true, List.nil_append, List.cons_append, List.append_assoc, Option.some.injEq, Sum.inl.injEq, zSw_c, zSw_n, zc_334, z1, z2]); (try simp only [zi_cs, zi_c0, zii_cs, zii_c0, zl_cs, zl_c0, zll_cs, zll_c0, zr_cs, zr_c0, zrr_cs, zrr_c0, zxs_cs, zxs_c0, zxx_cs, zxx_c0, zfree_c0, zfree_c1, zfree_cs, zfree_cz, zlong_i, zlong_r, zlong_x, zset_0, zset_s, true_and, and_true, Option.some.injEq, Sum.inl.injEq, Sum.inr.injEq, zb2_p, zbp_0, zbp_1, zbp_inj, zbp_01, Nat.zero_add, Nat.reduceAdd, implies_true, List.nil_append, List.cons_append, List.append_assoc, Int.not_lt, Int.not_le, Decidable.not_not, Int.zero_add, Int.reduceLE, Int.reduceLT, Int.reduceEq, Int.reduceNe, Int.reduceAdd, Int.reduceSub, Int.reduceMul, Int.reduceNeg, Int.reduceToNat, Nat.reduceMul, Nat.reduceLT, Nat.reduceEqDiff, and_self, ite_true, ite_false, zx1, zx2, zRecv, List.length_cons, List.length_nil, ne_eq, not_true_eq_false, not_false_eq_true, true_or, or_true, or_false, false_or, and_false, false_and, zf01, zf10, reduceCtorEq, zSw_c, zSw_n, zm_r, zit_T, zit_F, false_implies, true_implies, zc_334, z1, z2])
  rw [e0, e1, hS.2.1 _ _ (by omega) (by omega) (by omega) (by omega) (fun q => o3 q.symm), hS.2.1 _ _ (by omega) (by omega) (by omega) (by omega) o3]
  refine ⟨⟨⟨by ((try simp only [zI_e]); (first | done | omega | skip)), by ((try simp only [zI_e]); (first | done | omega | skip))⟩, by omega, by omega⟩, ⟨⟨by ((try simp only [zI_e]); (first | done | omega | skip)), by ((try simp only [zI_e]); (first | done | omega | skip))⟩, by omega, by omega⟩, zc_324.1, ?_⟩
  refine zCw.use (q_C_depth (d := 6) (by decide) hC o2 o1 (by omega) (by omega)) (by omega) (fun q μ2 e => ?_)
  obtain ⟨rfl, hcf⟩ := e
  rw [hcf.1 (11 + i) (by simp only [List.mem_cons, List.not_mem_nil, or_false]; omega), e2]
  exact ⟨_, rfl, by omega, Iff.rfl, hcf⟩
theorem q_Pl_keepFirst (hd : 3 ≤ d) (hb : μ 334 7 = 0 ∨ μ 334 7 = 1) : zSp d 0 0 y_Pl_keepFirst zT0 [vr 334] μ zT0 (fun q μ' => q = none ∧ (μ 334 7 = 1 → μ' = μ) ∧ (μ 334 7 = 0 → μ' 334 7 = 1 ∧ (∀ i : Int, 0 ≤ i → i < 8 → μ' 342 i = μ 337 i) ∧ zfc [334, 342] μ μ')) := by
  refine zSp.ss [vr 334] rfl (w_Pl_keepFirst hd) rfl rfl ?_
  (try simp only [zit_e, Bool.and_eq_true, Bool.or_eq_true, Bool.not_eq_true', Bool.and_eq_false_iff, Bool.or_eq_false_iff, Bool.not_eq_false', zbe, zdt, zdf, zb2_p, zbp_0, zbp_1, zbp_inj, zbp_01, Bool.true_eq_false, Bool.false_eq_true, true_and, and_true, Decidable.not_not, Classical.not_not, implies_true, List.nil_append, List.cons_append, List.append_assoc, Option.some.injEq, Sum.inl.injEq, zSw_c, zSw_n]); (try simp only [zit_e, Bool.and_eq_true, Bool.or_eq_true, Bool.not_eq_true', Bool.and_eq_false_iff, Bool.or_eq_false_iff, Bool.not_eq_false', zbe, zdt, zdf, zb2_p, zbp_0, zbp_1, zbp_inj, zbp_01, Bool.true_eq_false, Bool.false_eq_true, true_and, and_true, Decidable.not_not, Classical.not_not, implies_true, List.nil_append, List.cons_append, List.append_assoc, Option.some.injEq, Sum.inl.injEq, zSw_c, zSw_n, zc_334]); (try simp only [zi_cs, zi_c0, zii_cs, zii_c0, zl_cs, zl_c0, zll_cs, zll_c0, zr_cs, zr_c0, zrr_cs, zrr_c0, zxs_cs, zxs_c0, zxx_cs, zxx_c0, zfree_c0, zfree_c1, zfree_cs, zfree_cz, zlong_i, zlong_r, zlong_x, zset_0, zset_s, true_and, and_true, Option.some.injEq, Sum.inl.injEq, Sum.inr.injEq, zb2_p, zbp_0, zbp_1, zbp_inj, zbp_01, Nat.zero_add, Nat.reduceAdd, implies_true, List.nil_append, List.cons_append, List.append_assoc, Int.not_lt, Int.not_le, Decidable.not_not, Int.zero_add, Int.reduceLE, Int.reduceLT, Int.reduceEq, Int.reduceNe, Int.reduceAdd, Int.reduceSub, Int.reduceMul, Int.reduceNeg, Int.reduceToNat, Nat.reduceMul, Nat.reduceLT, Nat.reduceEqDiff, and_self, ite_true, ite_false, zx1, zx2, zRecv, List.length_cons, List.length_nil, ne_eq, not_true_eq_false, not_false_eq_true, true_or, or_true, or_false, false_or, and_false, false_and, zf01, zf10, reduceCtorEq, zSw_c, zSw_n, zm_r, zit_T, zit_F, false_implies, true_implies, zc_334])
  refine zif (fun c => ⟨fun q => by omega, fun _ => ⟨?_, fun j j0 j1 => ?_, ?_⟩⟩) (fun c q => absurd q c)
  · rw [zcp_r, zit_f (fun q => absurd q.1 (by decide)), zm_s]
  · rw [zcp_r, zit_t ⟨rfl, by omega, by omega⟩, zm_off _ (by decide), show (0 : Int) + (j - 0) = j by omega]
  · exact ((zfc.rf (cs := [334, 342])).zm (by decide)).cp (by decide)
theorem nk_5_6 : zNk 5 6 = none := rfl
def y_Pl_paidAsKnown : zMt := (⟨"DebtDoors$Plan", "paidAsKnown", "(I)Z"⟩, prog_7_method_5_code, 3, some .boolean)
theorem d_Pl_paidAsKnown_0 : decode prog_7_method_5_code 0 = .ok (.iconst 0, 1) := by decide +kernel
theorem d_Pl_paidAsKnown_1 : decode prog_7_method_5_code 1 = .ok (.istore_n 2, 1) := by decide +kernel
theorem d_Pl_paidAsKnown_2 : decode prog_7_method_5_code 2 = .ok (.iload_n 2, 1) := by decide +kernel
theorem d_Pl_paidAsKnown_3 : decode prog_7_method_5_code 3 = .ok (.bipush 8, 2) := by decide +kernel
theorem d_Pl_paidAsKnown_5 : decode prog_7_method_5_code 5 = .ok (.if_icmp .ge 31, 3) := by decide +kernel
theorem d_Pl_paidAsKnown_8 : decode prog_7_method_5_code 8 = .ok (.aload_n 0, 1) := by decide +kernel
theorem d_Pl_paidAsKnown_9 : decode prog_7_method_5_code 9 = .ok (.getfield 21, 3) := by decide +kernel
theorem d_Pl_paidAsKnown_12 : decode prog_7_method_5_code 12 = .ok (.iload_n 2, 1) := by decide +kernel
theorem d_Pl_paidAsKnown_13 : decode prog_7_method_5_code 13 = .ok (.iaload, 1) := by decide +kernel
theorem d_Pl_paidAsKnown_14 : decode prog_7_method_5_code 14 = .ok (.aload_n 0, 1) := by decide +kernel
theorem d_Pl_paidAsKnown_15 : decode prog_7_method_5_code 15 = .ok (.getfield 31, 3) := by decide +kernel
theorem d_Pl_paidAsKnown_18 : decode prog_7_method_5_code 18 = .ok (.iload_n 1, 1) := by decide +kernel
theorem d_Pl_paidAsKnown_19 : decode prog_7_method_5_code 19 = .ok (.bipush 8, 2) := by decide +kernel
theorem d_Pl_paidAsKnown_21 : decode prog_7_method_5_code 21 = .ok (.imul, 1) := by decide +kernel
theorem d_Pl_paidAsKnown_22 : decode prog_7_method_5_code 22 = .ok (.iload_n 2, 1) := by decide +kernel
theorem d_Pl_paidAsKnown_23 : decode prog_7_method_5_code 23 = .ok (.iadd, 1) := by decide +kernel
theorem d_Pl_paidAsKnown_24 : decode prog_7_method_5_code 24 = .ok (.iaload, 1) := by decide +kernel
theorem d_Pl_paidAsKnown_25 : decode prog_7_method_5_code 25 = .ok (.if_icmp .eq 5, 3) := by decide +kernel
theorem d_Pl_paidAsKnown_28 : decode prog_7_method_5_code 28 = .ok (.iconst 0, 1) := by decide +kernel
theorem d_Pl_paidAsKnown_29 : decode prog_7_method_5_code 29 = .ok (.ireturn, 1) := by decide +kernel
theorem d_Pl_paidAsKnown_30 : decode prog_7_method_5_code 30 = .ok (.iinc 2 1, 3) := by decide +kernel
theorem d_Pl_paidAsKnown_33 : decode prog_7_method_5_code 33 = .ok (.goto (-31), 3) := by decide +kernel
theorem d_Pl_paidAsKnown_36 : decode prog_7_method_5_code 36 = .ok (.iconst 1, 1) := by decide +kernel
theorem d_Pl_paidAsKnown_37 : decode prog_7_method_5_code 37 = .ok (.ireturn, 1) := by decide +kernel
def w_Pl_paidAsKnown {d : Nat} (hd : 1 ≤ d) := (show SS ("DebtDoors$Plan", prog_7_method_5_code, 3) (some .boolean) d 0 0 0 0 _ from (sS (p1 := 36) (sS (p1 := 2) (sIn 2 (xE (rI d_Pl_paidAsKnown_0 rfl)) d_Pl_paidAsKnown_1 rfl (by decide)) (sLp (ps := 30) (tt := 8) (pn := 36) (p1 := 0) (p2 := 0) (xC (rNot (rJ2 (tgt := 36) j_ge (rIn 2 d_Pl_paidAsKnown_2 rfl) (rB d_Pl_paidAsKnown_3 rfl) d_Pl_paidAsKnown_5 (by decide)))) (sIf (pn := 30) (tt := 28) (xC (rNot (rJ2 (tgt := 30) j_eq (rIa (rFr fl_Pl_21 nk_5_3 (rAn 0 d_Pl_paidAsKnown_8 rfl) d_Pl_paidAsKnown_9) (rIn 2 d_Pl_paidAsKnown_12 rfl) d_Pl_paidAsKnown_13) (rIa (rFr fl_Pl_31 nk_5_6 (rAn 0 d_Pl_paidAsKnown_14 rfl) d_Pl_paidAsKnown_15) (r2 o_add (r2 o_mul (rIn 1 d_Pl_paidAsKnown_18 rfl) (rB d_Pl_paidAsKnown_19 rfl) d_Pl_paidAsKnown_21) (rIn 2 d_Pl_paidAsKnown_22 rfl) d_Pl_paidAsKnown_23) d_Pl_paidAsKnown_24) d_Pl_paidAsKnown_25 (by decide)))) (sRz (xE (rI d_Pl_paidAsKnown_28 rfl)) d_Pl_paidAsKnown_29 rfl)) (sGo (pn := 2) (sInc d_Pl_paidAsKnown_30 (by decide)) d_Pl_paidAsKnown_33 (by decide)))) (sRz (xE (rI d_Pl_paidAsKnown_36 rfl)) d_Pl_paidAsKnown_37 rfl)))
noncomputable def f_Pl_paidAsKnown : List zV → zMem → Int
  | [.inr (.inr (.inl q0)), .inl b], μ => zbp (∀ i : Int, 0 ≤ i → i < 8 → μ 338 i = μ 341 (b * 8 + i))
  | _, _ => 0
def g_Pl_paidAsKnown : List zV → zMem → Prop
  | [.inr (.inr (.inl q0)), .inl b], μ => q0 = 334 ∧ (0 ≤ b ∧ b < 256)
  | _, _ => False
theorem p_Pl_paidAsKnown : zPu y_Pl_paidAsKnown 1 f_Pl_paidAsKnown g_Pl_paidAsKnown := by
  intro as μ h
  unfold g_Pl_paidAsKnown at h
  split at h
  · next q0 b =>
    obtain ⟨rfl, h⟩ := h
    refine zSp.ss [vr 334, vi b, vx 0] rfl (w_Pl_paidAsKnown (Nat.le_refl _)) rfl rfl ?_
    (try simp only [zit_e, Bool.and_eq_true, Bool.or_eq_true, Bool.not_eq_true', Bool.and_eq_false_iff, Bool.or_eq_false_iff, Bool.not_eq_false', zbe, zdt, zdf, zb2_p, zbp_0, zbp_1, zbp_inj, zbp_01, Bool.true_eq_false, Bool.false_eq_true, true_and, and_true, Decidable.not_not, Classical.not_not, implies_true, List.nil_append, List.cons_append, List.append_assoc, Option.some.injEq, Sum.inl.injEq, zSw_c, zSw_n]); (try simp only [zit_e, Bool.and_eq_true, Bool.or_eq_true, Bool.not_eq_true', Bool.and_eq_false_iff, Bool.or_eq_false_iff, Bool.not_eq_false', zbe, zdt, zdf, zb2_p, zbp_0, zbp_1, zbp_inj, zbp_01, Bool.true_eq_false, Bool.false_eq_true, true_and, and_true, Decidable.not_not, Classical.not_not, implies_true, List.nil_append, List.cons_append, List.append_assoc, Option.some.injEq, Sum.inl.injEq, zSw_c, zSw_n, f_Pl_paidAsKnown, zc_334]); (try simp only [zi_cs, zi_c0, zii_cs, zii_c0, zl_cs, zl_c0, zll_cs, zll_c0, zr_cs, zr_c0, zrr_cs, zrr_c0, zxs_cs, zxs_c0, zxx_cs, zxx_c0, zfree_c0, zfree_c1, zfree_cs, zfree_cz, zlong_i, zlong_r, zlong_x, zset_0, zset_s, true_and, and_true, Option.some.injEq, Sum.inl.injEq, Sum.inr.injEq, zb2_p, zbp_0, zbp_1, zbp_inj, zbp_01, Nat.zero_add, Nat.reduceAdd, implies_true, List.nil_append, List.cons_append, List.append_assoc, Int.not_lt, Int.not_le, Decidable.not_not, Int.zero_add, Int.reduceLE, Int.reduceLT, Int.reduceEq, Int.reduceNe, Int.reduceAdd, Int.reduceSub, Int.reduceMul, Int.reduceNeg, Int.reduceToNat, Nat.reduceMul, Nat.reduceLT, Nat.reduceEqDiff, and_self, ite_true, ite_false, zx1, zx2, zRecv, List.length_cons, List.length_nil, ne_eq, not_true_eq_false, not_false_eq_true, true_or, or_true, or_false, false_or, and_false, false_and, zf01, zf10, reduceCtorEq, zSw_c, zSw_n, zm_r, zit_T, zit_F, false_implies, true_implies, f_Pl_paidAsKnown, zc_334])
    refine zLoop.up 8 (fun j ρ ν => ρ = [vr 334, vi b, vi j] ∧ (∀ i : Int, 0 ≤ i → i < j → μ 338 i = μ 341 (b * 8 + i)) ∧ ν = μ) ⟨rfl, fun i _ _ => by omega, rfl⟩ ?_
    rintro j ρ ν hj ⟨rfl, hI, rfl⟩
    (try simp only [zit_e, Bool.and_eq_true, Bool.or_eq_true, Bool.not_eq_true', Bool.and_eq_false_iff, Bool.or_eq_false_iff, Bool.not_eq_false', zbe, zdt, zdf, zb2_p, zbp_0, zbp_1, zbp_inj, zbp_01, Bool.true_eq_false, Bool.false_eq_true, true_and, and_true, Decidable.not_not, Classical.not_not, implies_true, List.nil_append, List.cons_append, List.append_assoc, Option.some.injEq, Sum.inl.injEq, zSw_c, zSw_n]); (try simp only [zit_e, Bool.and_eq_true, Bool.or_eq_true, Bool.not_eq_true', Bool.and_eq_false_iff, Bool.or_eq_false_iff, Bool.not_eq_false', zbe, zdt, zdf, zb2_p, zbp_0, zbp_1, zbp_inj, zbp_01, Bool.true_eq_false, Bool.false_eq_true, true_and, and_true, Decidable.not_not, Classical.not_not, implies_true, List.nil_append, List.cons_append, List.append_assoc, Option.some.injEq, Sum.inl.injEq, zSw_c, zSw_n, zc_334]); (try simp only [zi_cs, zi_c0, zii_cs, zii_c0, zl_cs, zl_c0, zll_cs, zll_c0, zr_cs, zr_c0, zrr_cs, zrr_c0, zxs_cs, zxs_c0, zxx_cs, zxx_c0, zfree_c0, zfree_c1, zfree_cs, zfree_cz, zlong_i, zlong_r, zlong_x, zset_0, zset_s, true_and, and_true, Option.some.injEq, Sum.inl.injEq, Sum.inr.injEq, zb2_p, zbp_0, zbp_1, zbp_inj, zbp_01, Nat.zero_add, Nat.reduceAdd, implies_true, List.nil_append, List.cons_append, List.append_assoc, Int.not_lt, Int.not_le, Decidable.not_not, Int.zero_add, Int.reduceLE, Int.reduceLT, Int.reduceEq, Int.reduceNe, Int.reduceAdd, Int.reduceSub, Int.reduceMul, Int.reduceNeg, Int.reduceToNat, Nat.reduceMul, Nat.reduceLT, Nat.reduceEqDiff, and_self, ite_true, ite_false, zx1, zx2, zRecv, List.length_cons, List.length_nil, ne_eq, not_true_eq_false, not_false_eq_true, true_or, or_true, or_false, false_or, and_false, false_and, zf01, zf10, reduceCtorEq, zSw_c, zSw_n, zm_r, zit_T, zit_F, false_implies, true_implies, zc_334])
    refine zif (fun c => ?_) (fun c => ?_)
    · refine ⟨⟨⟨by omega, by omega⟩, ⟨by ((try simp only [zI_e]); (first | done | omega | skip)), by ((try simp only [zI_e]); (first | done | omega | skip))⟩, by omega, by omega⟩, ?_⟩
      refine zif (fun c2 => ?_) (fun c2 => ?_)
      · rw [zbf (fun q => c2 (q j (by omega) (by omega)))]
      · refine ⟨by ((try simp only [zI_e]); (first | done | omega | skip)), znx (by omega) ⟨rfl, fun i i0 i1 => ?_⟩⟩
        by_cases ei : i = j
        · rw [ei]
          exact Classical.not_not.mp c2
        · exact hI i i0 (by omega)
    · have : j = 8 := by omega
      subst this
      exact (zbt (fun i i0 i1 => hI i i0 i1)).symm
  · exact h.elim
end ZPC

