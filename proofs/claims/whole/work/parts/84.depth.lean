/-! how deep one gets -/
noncomputable def fillW (a0 a1 a2 a3 a4 a5 a6 a7 a8 a9 : Int) (w : Int → Int) : Int → Int := fun i => zit (i = 9) a9 (zit (i = 8) a8 (zit (i = 7) a7 (zit (i = 6) a6 (zit (i = 5) a5 (zit (i = 4) a4 (zit (i = 3) a3 (zit (i = 2) a2 (zit (i = 1) a1 (zit (i = 0) a0 (w i))))))))))
theorem fillW_fill {a0 a1 a2 a3 a4 a5 a6 a7 a8 a9 b0 b1 b2 b3 b4 b5 b6 b7 b8 b9 : Int} {w : Int → Int} : fillW a0 a1 a2 a3 a4 a5 a6 a7 a8 a9 (fillW b0 b1 b2 b3 b4 b5 b6 b7 b8 b9 w) = fillW a0 a1 a2 a3 a4 a5 a6 a7 a8 a9 w := by
  funext i
  unfold fillW
  by_cases h : 0 ≤ i ∧ i ≤ 9
  · have : i = 0 ∨ i = 1 ∨ i = 2 ∨ i = 3 ∨ i = 4 ∨ i = 5 ∨ i = 6 ∨ i = 7 ∨ i = 8 ∨ i = 9 := by omega
    rcases this with h | h | h | h | h | h | h | h | h | h <;> subst h <;> simp [zit]
  · simp only [zit_f (show ¬ i = 9 by omega), zit_f (show ¬ i = 8 by omega), zit_f (show ¬ i = 7 by omega), zit_f (show ¬ i = 6 by omega), zit_f (show ¬ i = 5 by omega), zit_f (show ¬ i = 4 by omega), zit_f (show ¬ i = 3 by omega), zit_f (show ¬ i = 2 by omega), zit_f (show ¬ i = 1 by omega), zit_f (show ¬ i = 0 by omega)]
theorem fillW_in {a0 a1 a2 a3 a4 a5 a6 a7 a8 a9 i : Int} {w w' : Int → Int} (h : 0 ≤ i ∧ i < 10) : fillW a0 a1 a2 a3 a4 a5 a6 a7 a8 a9 w i = fillW a0 a1 a2 a3 a4 a5 a6 a7 a8 a9 w' i := by
  unfold fillW
  have : i = 0 ∨ i = 1 ∨ i = 2 ∨ i = 3 ∨ i = 4 ∨ i = 5 ∨ i = 6 ∨ i = 7 ∨ i = 8 ∨ i = 9 := by omega
  rcases this with h | h | h | h | h | h | h | h | h | h <;> subst h <;> simp [zit]
theorem fillW_b {a0 a1 a2 a3 a4 a5 a6 a7 a8 a9 : Int} {w : Int → Int} {X : Int → Prop} (h : X a0 ∧ X a1 ∧ X a2 ∧ X a3 ∧ X a4 ∧ X a5 ∧ X a6 ∧ X a7 ∧ X a8 ∧ X a9) (hw : ∀ i : Int, 0 ≤ i → i < 60 → X (w i)) : ∀ i : Int, 0 ≤ i → i < 60 → X (fillW a0 a1 a2 a3 a4 a5 a6 a7 a8 a9 w i) := by
  obtain ⟨h0, h1, h2, h3, h4, h5, h6, h7, h8, h9⟩ := h
  intro i p q
  have hw := hw i p q
  unfold fillW zit
  repeat' split
  all_goals assumption
/-- what a depth is, by the clauses in force -/
def dpD (rooms owed : Int) : Int := if owed = 0 then 0 else min rooms (1 + owed.tdiv 100)
def dpS (W : Int → Int) (F : Option (List Cls)) (rooms owed : Int) : Int := match F with
  | none => dpD rooms owed
  | some cls => if lstT W 3 cls = none then tlV rooms (dpD rooms owed) (lstT W 0 cls) else 0
theorem dpD_z {rooms owed : Int} : dpD rooms owed = zit (owed = 0) 0 (min rooms (1 + owed.tdiv 100)) := by
  unfold dpD
  rw [zit_e]
theorem fl_Ru_73 : zFl "DebtDoors$Rules" 73 3 0 := ⟨_, rfl, by decide, (zTb_in 374 (by decide +kernel) (by decide +kernel)), rfl⟩
theorem fl_Ru_34 : zFl "DebtDoors$Rules" 34 9 1 := ⟨_, rfl, by decide, (zTb_in 234 (by decide +kernel) (by decide +kernel)), rfl⟩
theorem fl_Ru_82 : zFl "DebtDoors$Rules" 82 9 2 := ⟨_, rfl, by decide, (zTb_in 237 (by decide +kernel) (by decide +kernel)), rfl⟩
theorem fl_Ru_76 : zFl "DebtDoors$Rules" 76 1 6 := ⟨_, rfl, by decide, (zTb_in 206 (by decide +kernel) (by decide +kernel)), rfl⟩
theorem fl_Ru_18 : zFl "DebtDoors$Rules" 18 9 0 := ⟨_, rfl, by decide, (zTb_in 227 (by decide +kernel) (by decide +kernel)), rfl⟩
theorem fl_Ru_85 : zFl "DebtDoors$Rules" 85 9 7 := ⟨_, rfl, by decide, (zTb_in 252 (by decide +kernel) (by decide +kernel)), rfl⟩
def y_Ru_fillWords : zMt := (⟨"DebtDoors$Rules", "fillWords", "(LDebtDoors$Town;IIII)V"⟩, prog_9_method_5_code, 7, none)
theorem d_Ru_fillWords_0 : decode prog_9_method_5_code 0 = .ok (.aload_n 0, 1) := by decide +kernel
theorem d_Ru_fillWords_1 : decode prog_9_method_5_code 1 = .ok (.getfield 12, 3) := by decide +kernel
theorem d_Ru_fillWords_4 : decode prog_9_method_5_code 4 = .ok (.getfield 73, 3) := by decide +kernel
theorem d_Ru_fillWords_7 : decode prog_9_method_5_code 7 = .ok (.astore 6, 2) := by decide +kernel
theorem d_Ru_fillWords_9 : decode prog_9_method_5_code 9 = .ok (.aload 6, 2) := by decide +kernel
theorem d_Ru_fillWords_11 : decode prog_9_method_5_code 11 = .ok (.iconst 0, 1) := by decide +kernel
theorem d_Ru_fillWords_12 : decode prog_9_method_5_code 12 = .ok (.iload_n 2, 1) := by decide +kernel
theorem d_Ru_fillWords_13 : decode prog_9_method_5_code 13 = .ok (.iastore, 1) := by decide +kernel
theorem d_Ru_fillWords_14 : decode prog_9_method_5_code 14 = .ok (.aload 6, 2) := by decide +kernel
theorem d_Ru_fillWords_16 : decode prog_9_method_5_code 16 = .ok (.iconst 1, 1) := by decide +kernel
theorem d_Ru_fillWords_17 : decode prog_9_method_5_code 17 = .ok (.iload_n 3, 1) := by decide +kernel
theorem d_Ru_fillWords_18 : decode prog_9_method_5_code 18 = .ok (.iastore, 1) := by decide +kernel
theorem d_Ru_fillWords_19 : decode prog_9_method_5_code 19 = .ok (.aload 6, 2) := by decide +kernel
theorem d_Ru_fillWords_21 : decode prog_9_method_5_code 21 = .ok (.iconst 2, 1) := by decide +kernel
theorem d_Ru_fillWords_22 : decode prog_9_method_5_code 22 = .ok (.iload 4, 2) := by decide +kernel
theorem d_Ru_fillWords_24 : decode prog_9_method_5_code 24 = .ok (.iastore, 1) := by decide +kernel
theorem d_Ru_fillWords_25 : decode prog_9_method_5_code 25 = .ok (.aload 6, 2) := by decide +kernel
theorem d_Ru_fillWords_27 : decode prog_9_method_5_code 27 = .ok (.iconst 3, 1) := by decide +kernel
theorem d_Ru_fillWords_28 : decode prog_9_method_5_code 28 = .ok (.iload 5, 2) := by decide +kernel
theorem d_Ru_fillWords_30 : decode prog_9_method_5_code 30 = .ok (.iastore, 1) := by decide +kernel
theorem d_Ru_fillWords_31 : decode prog_9_method_5_code 31 = .ok (.aload 6, 2) := by decide +kernel
theorem d_Ru_fillWords_33 : decode prog_9_method_5_code 33 = .ok (.iconst 4, 1) := by decide +kernel
theorem d_Ru_fillWords_34 : decode prog_9_method_5_code 34 = .ok (.aload_n 1, 1) := by decide +kernel
theorem d_Ru_fillWords_35 : decode prog_9_method_5_code 35 = .ok (.getfield 34, 3) := by decide +kernel
theorem d_Ru_fillWords_38 : decode prog_9_method_5_code 38 = .ok (.iload_n 2, 1) := by decide +kernel
theorem d_Ru_fillWords_39 : decode prog_9_method_5_code 39 = .ok (.iaload, 1) := by decide +kernel
theorem d_Ru_fillWords_40 : decode prog_9_method_5_code 40 = .ok (.iastore, 1) := by decide +kernel
theorem d_Ru_fillWords_41 : decode prog_9_method_5_code 41 = .ok (.aload 6, 2) := by decide +kernel
theorem d_Ru_fillWords_43 : decode prog_9_method_5_code 43 = .ok (.iconst 5, 1) := by decide +kernel
theorem d_Ru_fillWords_44 : decode prog_9_method_5_code 44 = .ok (.aload_n 1, 1) := by decide +kernel
theorem d_Ru_fillWords_45 : decode prog_9_method_5_code 45 = .ok (.getfield 82, 3) := by decide +kernel
theorem d_Ru_fillWords_48 : decode prog_9_method_5_code 48 = .ok (.iload_n 2, 1) := by decide +kernel
theorem d_Ru_fillWords_49 : decode prog_9_method_5_code 49 = .ok (.iaload, 1) := by decide +kernel
theorem d_Ru_fillWords_50 : decode prog_9_method_5_code 50 = .ok (.iastore, 1) := by decide +kernel
theorem d_Ru_fillWords_51 : decode prog_9_method_5_code 51 = .ok (.aload 6, 2) := by decide +kernel
theorem d_Ru_fillWords_53 : decode prog_9_method_5_code 53 = .ok (.bipush 6, 2) := by decide +kernel
theorem d_Ru_fillWords_55 : decode prog_9_method_5_code 55 = .ok (.iconst (-1), 1) := by decide +kernel
theorem d_Ru_fillWords_56 : decode prog_9_method_5_code 56 = .ok (.iastore, 1) := by decide +kernel
theorem d_Ru_fillWords_57 : decode prog_9_method_5_code 57 = .ok (.aload 6, 2) := by decide +kernel
theorem d_Ru_fillWords_59 : decode prog_9_method_5_code 59 = .ok (.bipush 7, 2) := by decide +kernel
theorem d_Ru_fillWords_61 : decode prog_9_method_5_code 61 = .ok (.iconst (-1), 1) := by decide +kernel
theorem d_Ru_fillWords_62 : decode prog_9_method_5_code 62 = .ok (.iastore, 1) := by decide +kernel
theorem d_Ru_fillWords_63 : decode prog_9_method_5_code 63 = .ok (.aload 6, 2) := by decide +kernel
theorem d_Ru_fillWords_65 : decode prog_9_method_5_code 65 = .ok (.bipush 8, 2) := by decide +kernel
theorem d_Ru_fillWords_67 : decode prog_9_method_5_code 67 = .ok (.aload_n 1, 1) := by decide +kernel
theorem d_Ru_fillWords_68 : decode prog_9_method_5_code 68 = .ok (.getfield 18, 3) := by decide +kernel
theorem d_Ru_fillWords_71 : decode prog_9_method_5_code 71 = .ok (.getfield 76, 3) := by decide +kernel
theorem d_Ru_fillWords_74 : decode prog_9_method_5_code 74 = .ok (.iastore, 1) := by decide +kernel
theorem d_Ru_fillWords_75 : decode prog_9_method_5_code 75 = .ok (.aload 6, 2) := by decide +kernel
theorem d_Ru_fillWords_77 : decode prog_9_method_5_code 77 = .ok (.bipush 9, 2) := by decide +kernel
theorem d_Ru_fillWords_79 : decode prog_9_method_5_code 79 = .ok (.aload_n 1, 1) := by decide +kernel
theorem d_Ru_fillWords_80 : decode prog_9_method_5_code 80 = .ok (.getfield 85, 3) := by decide +kernel
theorem d_Ru_fillWords_83 : decode prog_9_method_5_code 83 = .ok (.iastore, 1) := by decide +kernel
theorem d_Ru_fillWords_84 : decode prog_9_method_5_code 84 = .ok (.return_, 1) := by decide +kernel
def w_Ru_fillWords {d : Nat} (hd : 1 ≤ d) := (show SS ("DebtDoors$Rules", prog_9_method_5_code, 7) (none) d 0 0 0 0 _ from (sS (p1 := 9) (sR (rFr fl_Ru_73 nk_3_0 (rFr fl_Ru_12 nk_7_0 (rAn 0 d_Ru_fillWords_0 rfl) d_Ru_fillWords_1) d_Ru_fillWords_4) d_Ru_fillWords_7 (by decide)) (sS (p1 := 14) (sAs (rAl d_Ru_fillWords_9) (rI d_Ru_fillWords_11 rfl) (xE (rIn 2 d_Ru_fillWords_12 rfl)) d_Ru_fillWords_13) (sS (p1 := 19) (sAs (rAl d_Ru_fillWords_14) (rI d_Ru_fillWords_16 rfl) (xE (rIn 3 d_Ru_fillWords_17 rfl)) d_Ru_fillWords_18) (sS (p1 := 25) (sAs (rAl d_Ru_fillWords_19) (rI d_Ru_fillWords_21 rfl) (xE (rIl d_Ru_fillWords_22)) d_Ru_fillWords_24) (sS (p1 := 31) (sAs (rAl d_Ru_fillWords_25) (rI d_Ru_fillWords_27 rfl) (xE (rIl d_Ru_fillWords_28)) d_Ru_fillWords_30) (sS (p1 := 41) (sAs (rAl d_Ru_fillWords_31) (rI d_Ru_fillWords_33 rfl) (xE (rIa (rFr fl_Ru_34 nk_9_1 (rAn 1 d_Ru_fillWords_34 rfl) d_Ru_fillWords_35) (rIn 2 d_Ru_fillWords_38 rfl) d_Ru_fillWords_39)) d_Ru_fillWords_40) (sS (p1 := 51) (sAs (rAl d_Ru_fillWords_41) (rI d_Ru_fillWords_43 rfl) (xE (rIa (rFr fl_Ru_82 nk_9_2 (rAn 1 d_Ru_fillWords_44 rfl) d_Ru_fillWords_45) (rIn 2 d_Ru_fillWords_48 rfl) d_Ru_fillWords_49)) d_Ru_fillWords_50) (sS (p1 := 57) (sAs (rAl d_Ru_fillWords_51) (rB d_Ru_fillWords_53 rfl) (xE (rI d_Ru_fillWords_55 rfl)) d_Ru_fillWords_56) (sS (p1 := 63) (sAs (rAl d_Ru_fillWords_57) (rB d_Ru_fillWords_59 rfl) (xE (rI d_Ru_fillWords_61 rfl)) d_Ru_fillWords_62) (sS (p1 := 75) (sAs (rAl d_Ru_fillWords_63) (rB d_Ru_fillWords_65 rfl) (xE (rF 6 fl_Ru_76 nk_1_6 (rFr fl_Ru_18 nk_9_0 (rAn 1 d_Ru_fillWords_67 rfl) d_Ru_fillWords_68) d_Ru_fillWords_71 rfl)) d_Ru_fillWords_74) (sS (p1 := 84) (sAs (rAl d_Ru_fillWords_75) (rB d_Ru_fillWords_77 rfl) (xE (rF 7 fl_Ru_85 nk_9_7 (rAn 1 d_Ru_fillWords_79 rfl) d_Ru_fillWords_80 rfl)) d_Ru_fillWords_83) (sRv d_Ru_fillWords_84 rfl)))))))))))))
theorem fl_Ru_38 : zFl "DebtDoors$Rules" 38 9 11 := ⟨_, rfl, by decide, (zTb_in 263 (by decide +kernel) (by decide +kernel)), rfl⟩
theorem fl_Ru_42 : zFl "DebtDoors$Rules" 42 9 5 := ⟨_, rfl, by decide, (zTb_in 245 (by decide +kernel) (by decide +kernel)), rfl⟩
theorem nk_9_5 : zNk 9 5 = none := rfl
theorem m_Ru_fillWords : Cond.instanceMethod y_Ru_fillWords.1 ∈ zTb ∧ Cond.selects y_Ru_fillWords.1.cls y_Ru_fillWords.1 y_Ru_fillWords.1 ∈ zTb ∧ Cond.initialized y_Ru_fillWords.1.cls ∈ zTb ∧ Cond.code y_Ru_fillWords.1 y_Ru_fillWords.2.1 y_Ru_fillWords.2.2.1 y_Ru_fillWords.2.2.2 ∈ zTb ∧ (y_Ru_fillWords.1.cls ≠ "java/lang/invoke/MethodHandle" ∧ y_Ru_fillWords.1.cls ≠ "java/lang/invoke/VarHandle" ∧ (parseMethodDescriptor y_Ru_fillWords.1.desc).map (fun d => d.parameters.length) = some 5) ∧ y_Ru_fillWords.2.2.1 ≤ 20 :=
  ⟨(zTb_in 663 (by decide +kernel) (by decide +kernel)), (List.mem_filter.mpr ⟨List.mem_append_left _ (by decide +kernel), by decide +kernel⟩), (zTb_in 144 (by decide +kernel) (by decide +kernel)), (zTb_in 664 (by decide +kernel) (by decide +kernel)), by decide +kernel, by decide +kernel⟩
theorem lv_Ru_46 : zLv "DebtDoors$Rules" 46 y_Ru_fillWords 5 7 := ⟨⟨(zTb_in 661 (by decide +kernel) (by decide +kernel)), m_Ru_fillWords.1, m_Ru_fillWords.2.1, m_Ru_fillWords.2.2⟩, _, rfl, rfl⟩
theorem m_Ru_lastTold : Cond.instanceMethod y_Ru_lastTold.1 ∈ zTb ∧ Cond.selects y_Ru_lastTold.1.cls y_Ru_lastTold.1 y_Ru_lastTold.1 ∈ zTb ∧ Cond.initialized y_Ru_lastTold.1.cls ∈ zTb ∧ Cond.code y_Ru_lastTold.1 y_Ru_lastTold.2.1 y_Ru_lastTold.2.2.1 y_Ru_lastTold.2.2.2 ∈ zTb ∧ (y_Ru_lastTold.1.cls ≠ "java/lang/invoke/MethodHandle" ∧ y_Ru_lastTold.1.cls ≠ "java/lang/invoke/VarHandle" ∧ (parseMethodDescriptor y_Ru_lastTold.1.desc).map (fun d => d.parameters.length) = some 2) ∧ y_Ru_lastTold.2.2.1 ≤ 20 :=
  ⟨(zTb_in 667 (by decide +kernel) (by decide +kernel)), (List.mem_filter.mpr ⟨List.mem_append_left _ (by decide +kernel), by decide +kernel⟩), (zTb_in 144 (by decide +kernel) (by decide +kernel)), (zTb_in 668 (by decide +kernel) (by decide +kernel)), by decide +kernel, by decide +kernel⟩
theorem lv_Ru_50 : zLv "DebtDoors$Rules" 50 y_Ru_lastTold 2 7 := ⟨⟨(zTb_in 665 (by decide +kernel) (by decide +kernel)), m_Ru_lastTold.1, m_Ru_lastTold.2.1, m_Ru_lastTold.2.2⟩, _, rfl, rfl⟩
theorem m_D_nearest : Cond.static y_D_nearest.1 ∈ zTb ∧ Cond.initialized y_D_nearest.1.cls ∈ zTb ∧ Cond.code y_D_nearest.1 y_D_nearest.2.1 y_D_nearest.2.2.1 y_D_nearest.2.2.2 ∈ zTb ∧ (y_D_nearest.1.cls ≠ "java/lang/invoke/MethodHandle" ∧ y_D_nearest.1.cls ≠ "java/lang/invoke/VarHandle" ∧ (parseMethodDescriptor y_D_nearest.1.desc).map (fun d => d.parameters.length) = some 3) ∧ y_D_nearest.2.2.1 ≤ 20 :=
  ⟨(zTb_in 694 (by decide +kernel) (by decide +kernel)), (zTb_in 139 (by decide +kernel) (by decide +kernel)), (zTb_in 695 (by decide +kernel) (by decide +kernel)), by decide +kernel, by decide +kernel⟩
theorem ls_Ru_55 : zLs "DebtDoors$Rules" 55 y_D_nearest 3 := Or.inr ⟨⟨"DebtDoors", List.mem_of_getElem? (i := 693) (by decide +kernel)⟩, m_D_nearest⟩
theorem km_Ru_59 : Cond.methodLink "DebtDoors$Rules" 59 Lib.Math.min.name ∈ zTb := (zTb_in 998 (by decide +kernel) (by decide +kernel))
def y_Ru_depth : zMt := (⟨"DebtDoors$Rules", "depth", "(LDebtDoors$Town;IIII)I"⟩, prog_9_method_3_code, 9, some .int)
theorem d_Ru_depth_0 : decode prog_9_method_3_code 0 = .ok (.aload_n 1, 1) := by decide +kernel
theorem d_Ru_depth_1 : decode prog_9_method_3_code 1 = .ok (.getfield 34, 3) := by decide +kernel
theorem d_Ru_depth_4 : decode prog_9_method_3_code 4 = .ok (.iload_n 2, 1) := by decide +kernel
theorem d_Ru_depth_5 : decode prog_9_method_3_code 5 = .ok (.iaload, 1) := by decide +kernel
theorem d_Ru_depth_6 : decode prog_9_method_3_code 6 = .ok (.istore 6, 2) := by decide +kernel
theorem d_Ru_depth_8 : decode prog_9_method_3_code 8 = .ok (.aload_n 1, 1) := by decide +kernel
theorem d_Ru_depth_9 : decode prog_9_method_3_code 9 = .ok (.getfield 38, 3) := by decide +kernel
theorem d_Ru_depth_12 : decode prog_9_method_3_code 12 = .ok (.iconst (-1), 1) := by decide +kernel
theorem d_Ru_depth_13 : decode prog_9_method_3_code 13 = .ok (.if_icmp .eq 64, 3) := by decide +kernel
theorem d_Ru_depth_16 : decode prog_9_method_3_code 16 = .ok (.aload_n 1, 1) := by decide +kernel
theorem d_Ru_depth_17 : decode prog_9_method_3_code 17 = .ok (.getfield 42, 3) := by decide +kernel
theorem d_Ru_depth_20 : decode prog_9_method_3_code 20 = .ok (.aload_n 1, 1) := by decide +kernel
theorem d_Ru_depth_21 : decode prog_9_method_3_code 21 = .ok (.getfield 38, 3) := by decide +kernel
theorem d_Ru_depth_24 : decode prog_9_method_3_code 24 = .ok (.aaload, 1) := by decide +kernel
theorem d_Ru_depth_25 : decode prog_9_method_3_code 25 = .ok (.astore 7, 2) := by decide +kernel
theorem d_Ru_depth_27 : decode prog_9_method_3_code 27 = .ok (.aload_n 0, 1) := by decide +kernel
theorem d_Ru_depth_28 : decode prog_9_method_3_code 28 = .ok (.aload_n 1, 1) := by decide +kernel
theorem d_Ru_depth_29 : decode prog_9_method_3_code 29 = .ok (.iload_n 2, 1) := by decide +kernel
theorem d_Ru_depth_30 : decode prog_9_method_3_code 30 = .ok (.iload_n 3, 1) := by decide +kernel
theorem d_Ru_depth_31 : decode prog_9_method_3_code 31 = .ok (.iload 4, 2) := by decide +kernel
theorem d_Ru_depth_33 : decode prog_9_method_3_code 33 = .ok (.iload 5, 2) := by decide +kernel
theorem d_Ru_depth_35 : decode prog_9_method_3_code 35 = .ok (.invokevirtual 46, 3) := by decide +kernel
theorem d_Ru_depth_38 : decode prog_9_method_3_code 38 = .ok (.aload_n 0, 1) := by decide +kernel
theorem d_Ru_depth_39 : decode prog_9_method_3_code 39 = .ok (.aload 7, 2) := by decide +kernel
theorem d_Ru_depth_41 : decode prog_9_method_3_code 41 = .ok (.iconst 3, 1) := by decide +kernel
theorem d_Ru_depth_42 : decode prog_9_method_3_code 42 = .ok (.invokevirtual 50, 3) := by decide +kernel
theorem d_Ru_depth_45 : decode prog_9_method_3_code 45 = .ok (.ldc 54, 2) := by decide +kernel
theorem d_Ru_depth_47 : decode prog_9_method_3_code 47 = .ok (.if_icmp .eq 5, 3) := by decide +kernel
theorem d_Ru_depth_50 : decode prog_9_method_3_code 50 = .ok (.iconst 0, 1) := by decide +kernel
theorem d_Ru_depth_51 : decode prog_9_method_3_code 51 = .ok (.ireturn, 1) := by decide +kernel
theorem d_Ru_depth_52 : decode prog_9_method_3_code 52 = .ok (.aload_n 0, 1) := by decide +kernel
theorem d_Ru_depth_53 : decode prog_9_method_3_code 53 = .ok (.aload 7, 2) := by decide +kernel
theorem d_Ru_depth_55 : decode prog_9_method_3_code 55 = .ok (.iconst 0, 1) := by decide +kernel
theorem d_Ru_depth_56 : decode prog_9_method_3_code 56 = .ok (.invokevirtual 50, 3) := by decide +kernel
theorem d_Ru_depth_59 : decode prog_9_method_3_code 59 = .ok (.istore 8, 2) := by decide +kernel
theorem d_Ru_depth_61 : decode prog_9_method_3_code 61 = .ok (.iload 8, 2) := by decide +kernel
theorem d_Ru_depth_63 : decode prog_9_method_3_code 63 = .ok (.ldc 54, 2) := by decide +kernel
theorem d_Ru_depth_65 : decode prog_9_method_3_code 65 = .ok (.if_icmp .eq 12, 3) := by decide +kernel
theorem d_Ru_depth_68 : decode prog_9_method_3_code 68 = .ok (.iload 8, 2) := by decide +kernel
theorem d_Ru_depth_70 : decode prog_9_method_3_code 70 = .ok (.iconst 0, 1) := by decide +kernel
theorem d_Ru_depth_71 : decode prog_9_method_3_code 71 = .ok (.iload 6, 2) := by decide +kernel
theorem d_Ru_depth_73 : decode prog_9_method_3_code 73 = .ok (.invokestatic 55, 3) := by decide +kernel
theorem d_Ru_depth_76 : decode prog_9_method_3_code 76 = .ok (.ireturn, 1) := by decide +kernel
theorem d_Ru_depth_77 : decode prog_9_method_3_code 77 = .ok (.iload 4, 2) := by decide +kernel
theorem d_Ru_depth_79 : decode prog_9_method_3_code 79 = .ok (.ifCond .ne 7, 3) := by decide +kernel
theorem d_Ru_depth_82 : decode prog_9_method_3_code 82 = .ok (.iconst 0, 1) := by decide +kernel
theorem d_Ru_depth_83 : decode prog_9_method_3_code 83 = .ok (.goto 15, 3) := by decide +kernel
theorem d_Ru_depth_86 : decode prog_9_method_3_code 86 = .ok (.iload 6, 2) := by decide +kernel
theorem d_Ru_depth_88 : decode prog_9_method_3_code 88 = .ok (.iconst 1, 1) := by decide +kernel
theorem d_Ru_depth_89 : decode prog_9_method_3_code 89 = .ok (.iload 4, 2) := by decide +kernel
theorem d_Ru_depth_91 : decode prog_9_method_3_code 91 = .ok (.bipush 100, 2) := by decide +kernel
theorem d_Ru_depth_93 : decode prog_9_method_3_code 93 = .ok (.idiv, 1) := by decide +kernel
theorem d_Ru_depth_94 : decode prog_9_method_3_code 94 = .ok (.iadd, 1) := by decide +kernel
theorem d_Ru_depth_95 : decode prog_9_method_3_code 95 = .ok (.invokestatic 59, 3) := by decide +kernel
theorem d_Ru_depth_98 : decode prog_9_method_3_code 98 = .ok (.ireturn, 1) := by decide +kernel
def w_Ru_depth {d : Nat} (hd : 4 ≤ d) := (show SS ("DebtDoors$Rules", prog_9_method_3_code, 9) (some .int) d 0 0 0 0 _ from (sS (p1 := 8) (sI (xE (rIa (rFr fl_Ru_34 nk_9_1 (rAn 1 d_Ru_depth_0 rfl) d_Ru_depth_1) (rIn 2 d_Ru_depth_4 rfl) d_Ru_depth_5)) d_Ru_depth_6 (by decide)) (sS (p1 := 77) (sIf (pn := 77) (tt := 16) (xC (rNot (rJ2 (tgt := 77) j_eq (rF 11 fl_Ru_38 nk_9_11 (rAn 1 d_Ru_depth_8 rfl) d_Ru_depth_9 rfl) (rI d_Ru_depth_12 rfl) d_Ru_depth_13 (by decide)))) (sS (p1 := 27) (sR (rAa (rFr fl_Ru_42 nk_9_5 (rAn 1 d_Ru_depth_16 rfl) d_Ru_depth_17) (rF 11 fl_Ru_38 nk_9_11 (rAn 1 d_Ru_depth_20 rfl) d_Ru_depth_21 rfl) d_Ru_depth_24) d_Ru_depth_25 (by decide)) (sS (p1 := 38) (sV (xVv lv_Ru_46 (xA (rAi (rAi (rAi (rAi (rAr (rAr rA0 (rAn 0 d_Ru_depth_27 rfl)) (rAn 1 d_Ru_depth_28 rfl)) (rIn 2 d_Ru_depth_29 rfl)) (rIn 3 d_Ru_depth_30 rfl)) (rIl d_Ru_depth_31)) (rIl d_Ru_depth_33))) (by decide) d_Ru_depth_35)) (sS (p1 := 52) (sIf (pn := 52) (tt := 50) (xNot (xJ2 (tgt := 52) j_eq (xV lv_Ru_50 (xA (rAi (rAr (rAr rA0 (rAn 0 d_Ru_depth_38 rfl)) (rAl d_Ru_depth_39)) (rI d_Ru_depth_41 rfl))) (by decide) d_Ru_depth_42) (xE (rLd kc_Ru_54 d_Ru_depth_45 rfl)) d_Ru_depth_47 (by decide))) (sRi (xE (rI d_Ru_depth_50 rfl)) d_Ru_depth_51 rfl)) (sS (p1 := 61) (sI (xV lv_Ru_50 (xA (rAi (rAr (rAr rA0 (rAn 0 d_Ru_depth_52 rfl)) (rAl d_Ru_depth_53)) (rI d_Ru_depth_55 rfl))) (by decide) d_Ru_depth_56) d_Ru_depth_59 (by decide)) (sIf (pn := 77) (tt := 68) (xC (rNot (rJ2 (tgt := 77) j_eq (rIl d_Ru_depth_61) (rLd kc_Ru_54 d_Ru_depth_63 rfl) d_Ru_depth_65 (by decide)))) (sRi (xE (rS p_D_nearest (Nat.le_trans (Nat.le_of_ble_eq_true rfl) hd) ls_Ru_55 (rAi (rAi (rAi rA0 (rIl d_Ru_depth_68)) (rI d_Ru_depth_70 rfl)) (rIl d_Ru_depth_71)) (by decide) d_Ru_depth_73)) d_Ru_depth_76 rfl))))))) (sRi (xE (rT2 (rNot (rJ1 (tgt := 86) k_ne (rIl d_Ru_depth_77) d_Ru_depth_79 (by decide))) (rGoE (p2 := 98) (rI d_Ru_depth_82 rfl) d_Ru_depth_83 (by decide)) (rMin km_Ru_59 (rIl d_Ru_depth_86) (r2 o_add (rI d_Ru_depth_88 rfl) (r2 o_div (rIl d_Ru_depth_89) (rB d_Ru_depth_91 rfl) d_Ru_depth_93) d_Ru_depth_94) (by decide) (Nat.le_trans (Nat.le_of_ble_eq_true rfl) hd) d_Ru_depth_95))) d_Ru_depth_98 rfl))))
def y_M_sets : zMt := (⟨"DebtDoorsModel", "sets", "(IIIIII)V"⟩, prog_14_method_74_code, 7, none)
theorem d_M_sets_0 : decode prog_14_method_74_code 0 = .ok (.aload_n 0, 1) := by decide +kernel
theorem d_M_sets_1 : decode prog_14_method_74_code 1 = .ok (.getfield 59, 3) := by decide +kernel
theorem d_M_sets_4 : decode prog_14_method_74_code 4 = .ok (.iconst 0, 1) := by decide +kernel
theorem d_M_sets_5 : decode prog_14_method_74_code 5 = .ok (.iload_n 1, 1) := by decide +kernel
theorem d_M_sets_6 : decode prog_14_method_74_code 6 = .ok (.iastore, 1) := by decide +kernel
theorem d_M_sets_7 : decode prog_14_method_74_code 7 = .ok (.aload_n 0, 1) := by decide +kernel
theorem d_M_sets_8 : decode prog_14_method_74_code 8 = .ok (.getfield 59, 3) := by decide +kernel
theorem d_M_sets_11 : decode prog_14_method_74_code 11 = .ok (.iconst 1, 1) := by decide +kernel
theorem d_M_sets_12 : decode prog_14_method_74_code 12 = .ok (.iload_n 2, 1) := by decide +kernel
theorem d_M_sets_13 : decode prog_14_method_74_code 13 = .ok (.iastore, 1) := by decide +kernel
theorem d_M_sets_14 : decode prog_14_method_74_code 14 = .ok (.aload_n 0, 1) := by decide +kernel
theorem d_M_sets_15 : decode prog_14_method_74_code 15 = .ok (.getfield 59, 3) := by decide +kernel
theorem d_M_sets_18 : decode prog_14_method_74_code 18 = .ok (.iconst 2, 1) := by decide +kernel
theorem d_M_sets_19 : decode prog_14_method_74_code 19 = .ok (.iload_n 3, 1) := by decide +kernel
theorem d_M_sets_20 : decode prog_14_method_74_code 20 = .ok (.iastore, 1) := by decide +kernel
theorem d_M_sets_21 : decode prog_14_method_74_code 21 = .ok (.aload_n 0, 1) := by decide +kernel
theorem d_M_sets_22 : decode prog_14_method_74_code 22 = .ok (.getfield 59, 3) := by decide +kernel
theorem d_M_sets_25 : decode prog_14_method_74_code 25 = .ok (.iconst 3, 1) := by decide +kernel
theorem d_M_sets_26 : decode prog_14_method_74_code 26 = .ok (.iload 4, 2) := by decide +kernel
theorem d_M_sets_28 : decode prog_14_method_74_code 28 = .ok (.iastore, 1) := by decide +kernel
theorem d_M_sets_29 : decode prog_14_method_74_code 29 = .ok (.aload_n 0, 1) := by decide +kernel
theorem d_M_sets_30 : decode prog_14_method_74_code 30 = .ok (.getfield 59, 3) := by decide +kernel
theorem d_M_sets_33 : decode prog_14_method_74_code 33 = .ok (.iconst 4, 1) := by decide +kernel
theorem d_M_sets_34 : decode prog_14_method_74_code 34 = .ok (.aload_n 0, 1) := by decide +kernel
theorem d_M_sets_35 : decode prog_14_method_74_code 35 = .ok (.getfield 24, 3) := by decide +kernel
theorem d_M_sets_38 : decode prog_14_method_74_code 38 = .ok (.iload_n 1, 1) := by decide +kernel
theorem d_M_sets_39 : decode prog_14_method_74_code 39 = .ok (.iconst 1, 1) := by decide +kernel
theorem d_M_sets_40 : decode prog_14_method_74_code 40 = .ok (.invokestatic 148, 3) := by decide +kernel
theorem d_M_sets_43 : decode prog_14_method_74_code 43 = .ok (.iaload, 1) := by decide +kernel
theorem d_M_sets_44 : decode prog_14_method_74_code 44 = .ok (.iastore, 1) := by decide +kernel
theorem d_M_sets_45 : decode prog_14_method_74_code 45 = .ok (.aload_n 0, 1) := by decide +kernel
theorem d_M_sets_46 : decode prog_14_method_74_code 46 = .ok (.getfield 59, 3) := by decide +kernel
theorem d_M_sets_49 : decode prog_14_method_74_code 49 = .ok (.iconst 5, 1) := by decide +kernel
theorem d_M_sets_50 : decode prog_14_method_74_code 50 = .ok (.aload_n 0, 1) := by decide +kernel
theorem d_M_sets_51 : decode prog_14_method_74_code 51 = .ok (.getfield 24, 3) := by decide +kernel
theorem d_M_sets_54 : decode prog_14_method_74_code 54 = .ok (.iload_n 1, 1) := by decide +kernel
theorem d_M_sets_55 : decode prog_14_method_74_code 55 = .ok (.iconst 2, 1) := by decide +kernel
theorem d_M_sets_56 : decode prog_14_method_74_code 56 = .ok (.invokestatic 148, 3) := by decide +kernel
theorem d_M_sets_59 : decode prog_14_method_74_code 59 = .ok (.iaload, 1) := by decide +kernel
theorem d_M_sets_60 : decode prog_14_method_74_code 60 = .ok (.iastore, 1) := by decide +kernel
theorem d_M_sets_61 : decode prog_14_method_74_code 61 = .ok (.aload_n 0, 1) := by decide +kernel
theorem d_M_sets_62 : decode prog_14_method_74_code 62 = .ok (.getfield 59, 3) := by decide +kernel
theorem d_M_sets_65 : decode prog_14_method_74_code 65 = .ok (.bipush 6, 2) := by decide +kernel
theorem d_M_sets_67 : decode prog_14_method_74_code 67 = .ok (.iload 5, 2) := by decide +kernel
theorem d_M_sets_69 : decode prog_14_method_74_code 69 = .ok (.iastore, 1) := by decide +kernel
theorem d_M_sets_70 : decode prog_14_method_74_code 70 = .ok (.aload_n 0, 1) := by decide +kernel
theorem d_M_sets_71 : decode prog_14_method_74_code 71 = .ok (.getfield 59, 3) := by decide +kernel
theorem d_M_sets_74 : decode prog_14_method_74_code 74 = .ok (.bipush 7, 2) := by decide +kernel
theorem d_M_sets_76 : decode prog_14_method_74_code 76 = .ok (.iload 6, 2) := by decide +kernel
theorem d_M_sets_78 : decode prog_14_method_74_code 78 = .ok (.iastore, 1) := by decide +kernel
theorem d_M_sets_79 : decode prog_14_method_74_code 79 = .ok (.aload_n 0, 1) := by decide +kernel
theorem d_M_sets_80 : decode prog_14_method_74_code 80 = .ok (.getfield 59, 3) := by decide +kernel
theorem d_M_sets_83 : decode prog_14_method_74_code 83 = .ok (.bipush 8, 2) := by decide +kernel
theorem d_M_sets_85 : decode prog_14_method_74_code 85 = .ok (.aload_n 0, 1) := by decide +kernel
theorem d_M_sets_86 : decode prog_14_method_74_code 86 = .ok (.getfield 24, 3) := by decide +kernel
theorem d_M_sets_89 : decode prog_14_method_74_code 89 = .ok (.bipush 72, 2) := by decide +kernel
theorem d_M_sets_91 : decode prog_14_method_74_code 91 = .ok (.iaload, 1) := by decide +kernel
theorem d_M_sets_92 : decode prog_14_method_74_code 92 = .ok (.iastore, 1) := by decide +kernel
theorem d_M_sets_93 : decode prog_14_method_74_code 93 = .ok (.aload_n 0, 1) := by decide +kernel
theorem d_M_sets_94 : decode prog_14_method_74_code 94 = .ok (.getfield 59, 3) := by decide +kernel
theorem d_M_sets_97 : decode prog_14_method_74_code 97 = .ok (.bipush 9, 2) := by decide +kernel
theorem d_M_sets_99 : decode prog_14_method_74_code 99 = .ok (.aload_n 0, 1) := by decide +kernel
theorem d_M_sets_100 : decode prog_14_method_74_code 100 = .ok (.getfield 24, 3) := by decide +kernel
theorem d_M_sets_103 : decode prog_14_method_74_code 103 = .ok (.sipush 151, 3) := by decide +kernel
theorem d_M_sets_106 : decode prog_14_method_74_code 106 = .ok (.iaload, 1) := by decide +kernel
theorem d_M_sets_107 : decode prog_14_method_74_code 107 = .ok (.iastore, 1) := by decide +kernel
theorem d_M_sets_108 : decode prog_14_method_74_code 108 = .ok (.return_, 1) := by decide +kernel
def w_M_sets {d : Nat} (hd : 2 ≤ d) := (show SS ("DebtDoorsModel", prog_14_method_74_code, 7) (none) d 0 0 0 0 _ from (sS (p1 := 7) (sAs (rFr fl_M_59 nk_12_24 (rAn 0 d_M_sets_0 rfl) d_M_sets_1) (rI d_M_sets_4 rfl) (xE (rIn 1 d_M_sets_5 rfl)) d_M_sets_6) (sS (p1 := 14) (sAs (rFr fl_M_59 nk_12_24 (rAn 0 d_M_sets_7 rfl) d_M_sets_8) (rI d_M_sets_11 rfl) (xE (rIn 2 d_M_sets_12 rfl)) d_M_sets_13) (sS (p1 := 21) (sAs (rFr fl_M_59 nk_12_24 (rAn 0 d_M_sets_14 rfl) d_M_sets_15) (rI d_M_sets_18 rfl) (xE (rIn 3 d_M_sets_19 rfl)) d_M_sets_20) (sS (p1 := 29) (sAs (rFr fl_M_59 nk_12_24 (rAn 0 d_M_sets_21 rfl) d_M_sets_22) (rI d_M_sets_25 rfl) (xE (rIl d_M_sets_26)) d_M_sets_28) (sS (p1 := 45) (sAs (rFr fl_M_59 nk_12_24 (rAn 0 d_M_sets_29 rfl) d_M_sets_30) (rI d_M_sets_33 rfl) (xE (rIa (rFr fl_M_24 nk_12_2 (rAn 0 d_M_sets_34 rfl) d_M_sets_35) (rS p_M_placeOf (Nat.le_trans (Nat.le_of_ble_eq_true rfl) hd) ls_M_148 (rAi (rAi rA0 (rIn 1 d_M_sets_38 rfl)) (rI d_M_sets_39 rfl)) (by decide) d_M_sets_40) d_M_sets_43)) d_M_sets_44) (sS (p1 := 61) (sAs (rFr fl_M_59 nk_12_24 (rAn 0 d_M_sets_45 rfl) d_M_sets_46) (rI d_M_sets_49 rfl) (xE (rIa (rFr fl_M_24 nk_12_2 (rAn 0 d_M_sets_50 rfl) d_M_sets_51) (rS p_M_placeOf (Nat.le_trans (Nat.le_of_ble_eq_true rfl) hd) ls_M_148 (rAi (rAi rA0 (rIn 1 d_M_sets_54 rfl)) (rI d_M_sets_55 rfl)) (by decide) d_M_sets_56) d_M_sets_59)) d_M_sets_60) (sS (p1 := 70) (sAs (rFr fl_M_59 nk_12_24 (rAn 0 d_M_sets_61 rfl) d_M_sets_62) (rB d_M_sets_65 rfl) (xE (rIl d_M_sets_67)) d_M_sets_69) (sS (p1 := 79) (sAs (rFr fl_M_59 nk_12_24 (rAn 0 d_M_sets_70 rfl) d_M_sets_71) (rB d_M_sets_74 rfl) (xE (rIl d_M_sets_76)) d_M_sets_78) (sS (p1 := 93) (sAs (rFr fl_M_59 nk_12_24 (rAn 0 d_M_sets_79 rfl) d_M_sets_80) (rB d_M_sets_83 rfl) (xE (rIa (rFr fl_M_24 nk_12_2 (rAn 0 d_M_sets_85 rfl) d_M_sets_86) (rB d_M_sets_89 rfl) d_M_sets_91)) d_M_sets_92) (sS (p1 := 108) (sAs (rFr fl_M_59 nk_12_24 (rAn 0 d_M_sets_93 rfl) d_M_sets_94) (rB d_M_sets_97 rfl) (xE (rIa (rFr fl_M_24 nk_12_2 (rAn 0 d_M_sets_99 rfl) d_M_sets_100) (rSi d_M_sets_103 rfl) d_M_sets_106)) d_M_sets_107) (sRv d_M_sets_108 rfl))))))))))))
theorem m_M_sets : Cond.instanceMethod y_M_sets.1 ∈ zTb ∧ Cond.selects y_M_sets.1.cls y_M_sets.1 y_M_sets.1 ∈ zTb ∧ Cond.initialized y_M_sets.1.cls ∈ zTb ∧ Cond.code y_M_sets.1 y_M_sets.2.1 y_M_sets.2.2.1 y_M_sets.2.2.2 ∈ zTb ∧ (y_M_sets.1.cls ≠ "java/lang/invoke/MethodHandle" ∧ y_M_sets.1.cls ≠ "java/lang/invoke/VarHandle" ∧ (parseMethodDescriptor y_M_sets.1.desc).map (fun d => d.parameters.length) = some 6) ∧ y_M_sets.2.2.1 ≤ 20 :=
  ⟨(zTb_in 1608 (by decide +kernel) (by decide +kernel)), (List.mem_filter.mpr ⟨List.mem_append_left _ (by decide +kernel), by decide +kernel⟩), (zTb_in 151 (by decide +kernel) (by decide +kernel)), (zTb_in 1609 (by decide +kernel) (by decide +kernel)), by decide +kernel, by decide +kernel⟩
theorem lv_M_328 : zLv "DebtDoorsModel" 328 y_M_sets 6 12 := ⟨⟨(zTb_in 1606 (by decide +kernel) (by decide +kernel)), m_M_sets.1, m_M_sets.2.1, m_M_sets.2.2⟩, _, rfl, rfl⟩
theorem m_M_tells : Cond.instanceMethod y_M_tells.1 ∈ zTb ∧ Cond.selects y_M_tells.1.cls y_M_tells.1 y_M_tells.1 ∈ zTb ∧ Cond.initialized y_M_tells.1.cls ∈ zTb ∧ Cond.code y_M_tells.1 y_M_tells.2.1 y_M_tells.2.2.1 y_M_tells.2.2.2 ∈ zTb ∧ (y_M_tells.1.cls ≠ "java/lang/invoke/MethodHandle" ∧ y_M_tells.1.cls ≠ "java/lang/invoke/VarHandle" ∧ (parseMethodDescriptor y_M_tells.1.desc).map (fun d => d.parameters.length) = some 3) ∧ y_M_tells.2.2.1 ≤ 20 :=
  ⟨(zTb_in 1612 (by decide +kernel) (by decide +kernel)), (List.mem_filter.mpr ⟨List.mem_append_left _ (by decide +kernel), by decide +kernel⟩), (zTb_in 151 (by decide +kernel) (by decide +kernel)), (zTb_in 1613 (by decide +kernel) (by decide +kernel)), by decide +kernel, by decide +kernel⟩
theorem lv_M_332 : zLv "DebtDoorsModel" 332 y_M_tells 3 12 := ⟨⟨(zTb_in 1610 (by decide +kernel) (by decide +kernel)), m_M_tells.1, m_M_tells.2.1, m_M_tells.2.2⟩, _, rfl, rfl⟩
def y_M_deepBy : zMt := (⟨"DebtDoorsModel", "deepBy", "(IIII)I"⟩, prog_14_method_75_code, 6, some .int)
theorem d_M_deepBy_0 : decode prog_14_method_75_code 0 = .ok (.aload_n 0, 1) := by decide +kernel
theorem d_M_deepBy_1 : decode prog_14_method_75_code 1 = .ok (.getfield 24, 3) := by decide +kernel
theorem d_M_deepBy_4 : decode prog_14_method_75_code 4 = .ok (.iload_n 1, 1) := by decide +kernel
theorem d_M_deepBy_5 : decode prog_14_method_75_code 5 = .ok (.iconst 1, 1) := by decide +kernel
theorem d_M_deepBy_6 : decode prog_14_method_75_code 6 = .ok (.invokestatic 148, 3) := by decide +kernel
theorem d_M_deepBy_9 : decode prog_14_method_75_code 9 = .ok (.iaload, 1) := by decide +kernel
theorem d_M_deepBy_10 : decode prog_14_method_75_code 10 = .ok (.istore 5, 2) := by decide +kernel
theorem d_M_deepBy_12 : decode prog_14_method_75_code 12 = .ok (.aload_n 0, 1) := by decide +kernel
theorem d_M_deepBy_13 : decode prog_14_method_75_code 13 = .ok (.iload_n 1, 1) := by decide +kernel
theorem d_M_deepBy_14 : decode prog_14_method_75_code 14 = .ok (.iload_n 2, 1) := by decide +kernel
theorem d_M_deepBy_15 : decode prog_14_method_75_code 15 = .ok (.iload_n 3, 1) := by decide +kernel
theorem d_M_deepBy_16 : decode prog_14_method_75_code 16 = .ok (.iload 4, 2) := by decide +kernel
theorem d_M_deepBy_18 : decode prog_14_method_75_code 18 = .ok (.iconst (-1), 1) := by decide +kernel
theorem d_M_deepBy_19 : decode prog_14_method_75_code 19 = .ok (.iconst (-1), 1) := by decide +kernel
theorem d_M_deepBy_20 : decode prog_14_method_75_code 20 = .ok (.invokevirtual 328, 3) := by decide +kernel
theorem d_M_deepBy_23 : decode prog_14_method_75_code 23 = .ok (.aload_n 0, 1) := by decide +kernel
theorem d_M_deepBy_24 : decode prog_14_method_75_code 24 = .ok (.iconst 4, 1) := by decide +kernel
theorem d_M_deepBy_25 : decode prog_14_method_75_code 25 = .ok (.iconst 1, 1) := by decide +kernel
theorem d_M_deepBy_26 : decode prog_14_method_75_code 26 = .ok (.iconst 0, 1) := by decide +kernel
theorem d_M_deepBy_27 : decode prog_14_method_75_code 27 = .ok (.invokevirtual 332, 3) := by decide +kernel
theorem d_M_deepBy_30 : decode prog_14_method_75_code 30 = .ok (.iconst 1, 1) := by decide +kernel
theorem d_M_deepBy_31 : decode prog_14_method_75_code 31 = .ok (.if_icmp .ne 5, 3) := by decide +kernel
theorem d_M_deepBy_34 : decode prog_14_method_75_code 34 = .ok (.iconst 0, 1) := by decide +kernel
theorem d_M_deepBy_35 : decode prog_14_method_75_code 35 = .ok (.ireturn, 1) := by decide +kernel
theorem d_M_deepBy_36 : decode prog_14_method_75_code 36 = .ok (.aload_n 0, 1) := by decide +kernel
theorem d_M_deepBy_37 : decode prog_14_method_75_code 37 = .ok (.iconst 1, 1) := by decide +kernel
theorem d_M_deepBy_38 : decode prog_14_method_75_code 38 = .ok (.iload 5, 2) := by decide +kernel
theorem d_M_deepBy_40 : decode prog_14_method_75_code 40 = .ok (.iload_n 3, 1) := by decide +kernel
theorem d_M_deepBy_41 : decode prog_14_method_75_code 41 = .ok (.ifCond .ne 7, 3) := by decide +kernel
theorem d_M_deepBy_44 : decode prog_14_method_75_code 44 = .ok (.iconst 0, 1) := by decide +kernel
theorem d_M_deepBy_45 : decode prog_14_method_75_code 45 = .ok (.goto 14, 3) := by decide +kernel
theorem d_M_deepBy_48 : decode prog_14_method_75_code 48 = .ok (.iload 5, 2) := by decide +kernel
theorem d_M_deepBy_50 : decode prog_14_method_75_code 50 = .ok (.iconst 1, 1) := by decide +kernel
theorem d_M_deepBy_51 : decode prog_14_method_75_code 51 = .ok (.iload_n 3, 1) := by decide +kernel
theorem d_M_deepBy_52 : decode prog_14_method_75_code 52 = .ok (.bipush 100, 2) := by decide +kernel
theorem d_M_deepBy_54 : decode prog_14_method_75_code 54 = .ok (.idiv, 1) := by decide +kernel
theorem d_M_deepBy_55 : decode prog_14_method_75_code 55 = .ok (.iadd, 1) := by decide +kernel
theorem d_M_deepBy_56 : decode prog_14_method_75_code 56 = .ok (.invokestatic 335, 3) := by decide +kernel
theorem d_M_deepBy_59 : decode prog_14_method_75_code 59 = .ok (.invokevirtual 332, 3) := by decide +kernel
theorem d_M_deepBy_62 : decode prog_14_method_75_code 62 = .ok (.ireturn, 1) := by decide +kernel
def w_M_deepBy {d : Nat} (hd : 2 ≤ d) := (show SS ("DebtDoorsModel", prog_14_method_75_code, 6) (some .int) d 0 0 0 0 _ from (sS (p1 := 12) (sI (xE (rIa (rFr fl_M_24 nk_12_2 (rAn 0 d_M_deepBy_0 rfl) d_M_deepBy_1) (rS p_M_placeOf (Nat.le_trans (Nat.le_of_ble_eq_true rfl) hd) ls_M_148 (rAi (rAi rA0 (rIn 1 d_M_deepBy_4 rfl)) (rI d_M_deepBy_5 rfl)) (by decide) d_M_deepBy_6) d_M_deepBy_9)) d_M_deepBy_10 (by decide)) (sS (p1 := 23) (sV (xVv lv_M_328 (xA (rAi (rAi (rAi (rAi (rAi (rAi (rAr rA0 (rAn 0 d_M_deepBy_12 rfl)) (rIn 1 d_M_deepBy_13 rfl)) (rIn 2 d_M_deepBy_14 rfl)) (rIn 3 d_M_deepBy_15 rfl)) (rIl d_M_deepBy_16)) (rI d_M_deepBy_18 rfl)) (rI d_M_deepBy_19 rfl))) (by decide) d_M_deepBy_20)) (sS (p1 := 36) (sIf (pn := 36) (tt := 34) (xNot (xJ2 (tgt := 36) j_ne (xV lv_M_332 (xA (rAi (rAi (rAi (rAr rA0 (rAn 0 d_M_deepBy_23 rfl)) (rI d_M_deepBy_24 rfl)) (rI d_M_deepBy_25 rfl)) (rI d_M_deepBy_26 rfl))) (by decide) d_M_deepBy_27) (xE (rI d_M_deepBy_30 rfl)) d_M_deepBy_31 (by decide))) (sRi (xE (rI d_M_deepBy_34 rfl)) d_M_deepBy_35 rfl)) (sRi (xV lv_M_332 (xA (rAi (rAi (rAi (rAr rA0 (rAn 0 d_M_deepBy_36 rfl)) (rI d_M_deepBy_37 rfl)) (rIl d_M_deepBy_38)) (rT2 (rNot (rJ1 (tgt := 48) k_ne (rIn 3 d_M_deepBy_40 rfl) d_M_deepBy_41 (by decide))) (rGoE (p2 := 59) (rI d_M_deepBy_44 rfl) d_M_deepBy_45 (by decide)) (rS p_M_lesser (Nat.le_trans (Nat.le_of_ble_eq_true rfl) hd) ls_M_335 (rAi (rAi rA0 (rIl d_M_deepBy_48)) (r2 o_add (rI d_M_deepBy_50 rfl) (r2 o_div (rIn 3 d_M_deepBy_51 rfl) (rB d_M_deepBy_52 rfl) d_M_deepBy_54) d_M_deepBy_55)) (by decide) d_M_deepBy_56)))) (by decide) d_M_deepBy_59) d_M_deepBy_62 rfl)))))
theorem q_Ru_fillWords {d : Nat} (hd : 1 ≤ d) {μ : zMem} {owner visitor owed back : Int} (ho : 0 ≤ owner ∧ owner ≤ 6) : zSp d 0 0 y_Ru_fillWords zT0 [vr 324, vr 1, vi owner, vi visitor, vi owed, vi back] μ zT0 (fun r μ' => r = none ∧ μ' 326 = fillW owner visitor owed back (μ 8 owner) (μ 9 owner) (-1) (-1) (μ 2 6) (μ 1 7) (μ 326) ∧ zfc [326] μ μ') := by
  refine zSp.ss [vr 324, vr 1, vi owner, vi visitor, vi owed, vi back, vx 0] rfl (w_Ru_fillWords (Nat.le_trans (by decide) hd)) rfl rfl ?_
  (try simp only [zit_e, Bool.and_eq_true, Bool.or_eq_true, Bool.not_eq_true', Bool.and_eq_false_iff, Bool.or_eq_false_iff, Bool.not_eq_false', zbe, zdt, zdf, zb2_p, zbp_0, zbp_1, zbp_inj, zbp_01, Bool.true_eq_false, Bool.false_eq_true, true_and, and_true, Decidable.not_not, Classical.not_not, implies_true, List.nil_append, List.cons_append, List.append_assoc, Option.some.injEq, Sum.inl.injEq, zSw_c, zSw_n]); (try simp only [zit_e, Bool.and_eq_true, Bool.or_eq_true, Bool.not_eq_true', Bool.and_eq_false_iff, Bool.or_eq_false_iff, Bool.not_eq_false', zbe, zdt, zdf, zb2_p, zbp_0, zbp_1, zbp_inj, zbp_01, Bool.true_eq_false, Bool.false_eq_true, true_and, and_true, Decidable.not_not, Classical.not_not, implies_true, List.nil_append, List.cons_append, List.append_assoc, Option.some.injEq, Sum.inl.injEq, zSw_c, zSw_n, zc_324, zc_325, zc_1, zc_2]); (try simp only [zi_cs, zi_c0, zii_cs, zii_c0, zl_cs, zl_c0, zll_cs, zll_c0, zr_cs, zr_c0, zrr_cs, zrr_c0, zxs_cs, zxs_c0, zxx_cs, zxx_c0, zfree_c0, zfree_c1, zfree_cs, zfree_cz, zlong_i, zlong_r, zlong_x, zset_0, zset_s, true_and, and_true, Option.some.injEq, Sum.inl.injEq, Sum.inr.injEq, zb2_p, zbp_0, zbp_1, zbp_inj, zbp_01, Nat.zero_add, Nat.reduceAdd, implies_true, List.nil_append, List.cons_append, List.append_assoc, Int.not_lt, Int.not_le, Decidable.not_not, Int.zero_add, Int.reduceLE, Int.reduceLT, Int.reduceEq, Int.reduceNe, Int.reduceAdd, Int.reduceSub, Int.reduceMul, Int.reduceNeg, Int.reduceToNat, Nat.reduceMul, Nat.reduceLT, Nat.reduceEqDiff, and_self, ite_true, ite_false, zx1, zx2, zRecv, List.length_cons, List.length_nil, ne_eq, not_true_eq_false, not_false_eq_true, true_or, or_true, or_false, false_or, and_false, false_and, zf01, zf10, reduceCtorEq, zSw_c, zSw_n, zm_r, zit_T, zit_F, false_implies, true_implies, zc_324, zc_325, zc_1, zc_2])
  refine ⟨by omega, by omega, ?_, ?_⟩
  · funext i
    simp only [zm_r, zit_T, zit_F, Nat.reduceEqDiff]
    rfl
  · exact (((((((((zfc.rf.zm (by decide)).zm (by decide)).zm (by decide)).zm (by decide)).zm (by decide)).zm (by decide)).zm (by decide)).zm (by decide)).zm (by decide)).zm (by decide)
theorem q_M_sets {d : Nat} (hd : 2 ≤ d) {μ : zMem} {owner visitor owed back a6 a7 : Int} (ho : 0 ≤ owner ∧ owner ≤ 6) : zSp d 0 0 y_M_sets zT0 [vr 355, vi owner, vi visitor, vi owed, vi back, vi a6, vi a7] μ zT0 (fun r μ' => r = none ∧ (∀ w i, 0 ≤ i → i < 10 → μ' 367 i = fillW owner visitor owed back (μ 357 (73 + 2 * owner)) (μ 357 (74 + 2 * owner)) a6 a7 (μ 357 72) (μ 357 151) w i) ∧ zfc [367] μ μ') := by
  refine zSp.ss [vr 355, vi owner, vi visitor, vi owed, vi back, vi a6, vi a7] rfl (w_M_sets (Nat.le_trans (by decide) hd)) rfl rfl ?_
  (try simp only [zit_e, Bool.and_eq_true, Bool.or_eq_true, Bool.not_eq_true', Bool.and_eq_false_iff, Bool.or_eq_false_iff, Bool.not_eq_false', zbe, zdt, zdf, zb2_p, zbp_0, zbp_1, zbp_inj, zbp_01, Bool.true_eq_false, Bool.false_eq_true, true_and, and_true, Decidable.not_not, Classical.not_not, implies_true, List.nil_append, List.cons_append, List.append_assoc, Option.some.injEq, Sum.inl.injEq, zSw_c, zSw_n]); (try simp only [zit_e, Bool.and_eq_true, Bool.or_eq_true, Bool.not_eq_true', Bool.and_eq_false_iff, Bool.or_eq_false_iff, Bool.not_eq_false', zbe, zdt, zdf, zb2_p, zbp_0, zbp_1, zbp_inj, zbp_01, Bool.true_eq_false, Bool.false_eq_true, true_and, and_true, Decidable.not_not, Classical.not_not, implies_true, List.nil_append, List.cons_append, List.append_assoc, Option.some.injEq, Sum.inl.injEq, zSw_c, zSw_n, zc_355, f_M_placeOf, g_M_placeOf]); (try simp only [zi_cs, zi_c0, zii_cs, zii_c0, zl_cs, zl_c0, zll_cs, zll_c0, zr_cs, zr_c0, zrr_cs, zrr_c0, zxs_cs, zxs_c0, zxx_cs, zxx_c0, zfree_c0, zfree_c1, zfree_cs, zfree_cz, zlong_i, zlong_r, zlong_x, zset_0, zset_s, true_and, and_true, Option.some.injEq, Sum.inl.injEq, Sum.inr.injEq, zb2_p, zbp_0, zbp_1, zbp_inj, zbp_01, Nat.zero_add, Nat.reduceAdd, implies_true, List.nil_append, List.cons_append, List.append_assoc, Int.not_lt, Int.not_le, Decidable.not_not, Int.zero_add, Int.reduceLE, Int.reduceLT, Int.reduceEq, Int.reduceNe, Int.reduceAdd, Int.reduceSub, Int.reduceMul, Int.reduceNeg, Int.reduceToNat, Nat.reduceMul, Nat.reduceLT, Nat.reduceEqDiff, and_self, ite_true, ite_false, zx1, zx2, zRecv, List.length_cons, List.length_nil, ne_eq, not_true_eq_false, not_false_eq_true, true_or, or_true, or_false, false_or, and_false, false_and, zf01, zf10, reduceCtorEq, zSw_c, zSw_n, zm_r, zit_T, zit_F, false_implies, true_implies, zc_355, f_M_placeOf, g_M_placeOf])
  refine ⟨⟨ho, by omega⟩, ⟨ho, by omega⟩, fun w i h0 h1 => ?_, ?_⟩
  · rw [show 73 + 2 * owner + 2 - 1 = 74 + 2 * owner by omega, show 73 + 2 * owner + 1 - 1 = 73 + 2 * owner by omega]
    exact fillW_in (w := μ 367) (w' := w) ⟨h0, h1⟩
  · exact (((((((((zfc.rf.zm (by decide)).zm (by decide)).zm (by decide)).zm (by decide)).zm (by decide)).zm (by decide)).zm (by decide)).zm (by decide)).zm (by decide)).zm (by decide)
theorem zpa28 {f : Int} (h : 0 ≤ f ∧ f ≤ 5) : zpa 28 f = 29 + f.toNat := by
  have : f = 0 ∨ f = 1 ∨ f = 2 ∨ f = 3 ∨ f = 4 ∨ f = 5 := by omega
  rcases this with h | h | h | h | h | h <;> subst h <;> decide
/-- the law in force, in the class, in the reference -/
def FoC (μ : zMem) (F : Option (List Cls)) : Prop := (μ 1 11 = -1 ∧ F = none) ∨ ∃ (f : Int) (cls : List Cls), μ 1 11 = f ∧ (0 ≤ f ∧ f ≤ 5) ∧ F = some cls ∧ LwC false (μ (29 + f.toNat)) cls ∧ ∀ cl, cl ∈ cls → ClM cl
def FoM (μ : zMem) (F : Option (List Cls)) : Prop := (μ 357 156 = -1 ∧ F = none) ∨ ∃ (f : Int) (Q : zTk) (cls : List Cls) (code : List Int), μ 357 156 = f ∧ (0 ≤ f ∧ f ≤ 5) ∧ F = some cls ∧ LwM (μ 357) f Q ∧ LwP false Q cls code ∧ ∀ cl, cl ∈ cls → ClM cl
theorem zkl28 {f : Int} (h : 0 ≤ f ∧ f ≤ 5) : zkd (29 + f.toNat) = 0 ∧ zln (29 + f.toNat) = 385 ∧ 29 + f.toNat < 325 := by
  have : f = 0 ∨ f = 1 ∨ f = 2 ∨ f = 3 ∨ f = 4 ∨ f = 5 := by omega
  rcases this with h | h | h | h | h | h <;> subst h <;> decide +kernel
theorem lsV_u {kind : Int} {E : Option Int} (h : ∀ s, E = some s → okV s) : lsV kind E = -2000000000 ↔ E = none := by
  cases E with
  | none => exact ⟨fun _ => rfl, fun _ => rfl⟩
  | some s =>
    have := h s rfl
    unfold okV at this
    refine ⟨fun q => ?_, fun q => by cases q⟩
    unfold lsV at q
    simp only at q
    split at q <;> omega
theorem lst_ok {W : Int → Int} {kind : Int} {cls : List Cls} (hM : ∀ cl, cl ∈ cls → ClM cl) (hW : WB W) : ∀ s, lstT W kind cls = some s → okV s := by
  intro s e
  obtain ⟨cl, h1, -, h3⟩ := lstT_in e
  exact (hM cl h1).1 W hW s h3
theorem lst_3 {W : Int → Int} {cls : List Cls} (hM : ∀ cl, cl ∈ cls → ClM cl) : ∀ s, lstT W 3 cls = some s → s = 1 := by
  intro s e
  obtain ⟨cl, h1, h2, h3⟩ := lstT_in e
  have := (hM cl h1).2 h2 W
  rw [h3] at this
  exact Option.some.inj this
theorem q_Ru_depth {d : Nat} (hd : 6 ≤ d) {μ : zMem} {owner visitor owed back : Int} {F : Option (List Cls)} {W : Int → Int} (ho : 0 ≤ owner ∧ owner ≤ 6) (hF : FoC μ F) (hW : W = fillW owner visitor owed back (μ 8 owner) (μ 9 owner) (-1) (-1) (μ 2 6) (μ 1 7) (μ 326)) (hWb : WB W) (hr : 0 ≤ μ 8 owner ∧ μ 8 owner ≤ 3) (hod : 0 ≤ owed ∧ owed ≤ 1000000) : zSp d 0 0 y_Ru_depth zT0 [vr 324, vr 1, vi owner, vi visitor, vi owed, vi back] μ zT0 (fun r μ' => r = some (vi (dpS W F (μ 8 owner) owed)) ∧ (∃ w, μ' 326 = w ∧ (F = none → w = μ 326) ∧ (F ≠ none → w = W)) ∧ zfc [325, 326, 327] μ μ') := by
  refine zSp.ss [vr 324, vr 1, vi owner, vi visitor, vi owed, vi back, vx 0, vx 0, vx 0] rfl (w_Ru_depth (Nat.le_trans (by decide) hd)) rfl rfl ?_
  (try simp only [zit_e, Bool.and_eq_true, Bool.or_eq_true, Bool.not_eq_true', Bool.and_eq_false_iff, Bool.or_eq_false_iff, Bool.not_eq_false', zbe, zdt, zdf, zb2_p, zbp_0, zbp_1, zbp_inj, zbp_01, Bool.true_eq_false, Bool.false_eq_true, true_and, and_true, Decidable.not_not, Classical.not_not, implies_true, List.nil_append, List.cons_append, List.append_assoc, Option.some.injEq, Sum.inl.injEq, zSw_c, zSw_n]); (try simp only [zit_e, Bool.and_eq_true, Bool.or_eq_true, Bool.not_eq_true', Bool.and_eq_false_iff, Bool.or_eq_false_iff, Bool.not_eq_false', zbe, zdt, zdf, zb2_p, zbp_0, zbp_1, zbp_inj, zbp_01, Bool.true_eq_false, Bool.false_eq_true, true_and, and_true, Decidable.not_not, Classical.not_not, implies_true, List.nil_append, List.cons_append, List.append_assoc, Option.some.injEq, Sum.inl.injEq, zSw_c, zSw_n, zc_324, zc_1, f_D_nearest, g_D_nearest]); (try simp only [zi_cs, zi_c0, zii_cs, zii_c0, zl_cs, zl_c0, zll_cs, zll_c0, zr_cs, zr_c0, zrr_cs, zrr_c0, zxs_cs, zxs_c0, zxx_cs, zxx_c0, zfree_c0, zfree_c1, zfree_cs, zfree_cz, zlong_i, zlong_r, zlong_x, zset_0, zset_s, true_and, and_true, Option.some.injEq, Sum.inl.injEq, Sum.inr.injEq, zb2_p, zbp_0, zbp_1, zbp_inj, zbp_01, Nat.zero_add, Nat.reduceAdd, implies_true, List.nil_append, List.cons_append, List.append_assoc, Int.not_lt, Int.not_le, Decidable.not_not, Int.zero_add, Int.reduceLE, Int.reduceLT, Int.reduceEq, Int.reduceNe, Int.reduceAdd, Int.reduceSub, Int.reduceMul, Int.reduceNeg, Int.reduceToNat, Nat.reduceMul, Nat.reduceLT, Nat.reduceEqDiff, and_self, ite_true, ite_false, zx1, zx2, zRecv, List.length_cons, List.length_nil, ne_eq, not_true_eq_false, not_false_eq_true, true_or, or_true, or_false, false_or, and_false, false_and, zf01, zf10, reduceCtorEq, zSw_c, zSw_n, zm_r, zit_T, zit_F, false_implies, true_implies, zc_324, zc_1, f_D_nearest, g_D_nearest])
  have htd : 0 ≤ owed.tdiv 100 ∧ owed.tdiv 100 ≤ 10000 := by
    rw [Int.tdiv_eq_ediv_of_nonneg hod.1]
    omega
  refine ⟨by omega, ?_⟩
  rcases hF with ⟨h11, rfl⟩ | ⟨f, cls, h11, hf, rfl, hL, hM⟩
  · rw [if_neg (by omega)]
    refine ⟨fun _ => ⟨zI_s (by omega) (by omega), zI_s (by omega) (by omega)⟩, ?_, ⟨_, rfl, fun _ => rfl, fun q => absurd rfl q⟩, zfc.rf⟩
    unfold dpS dpD
    rw [zit_e]
  rw [if_pos (by omega), h11, zpa28 hf]
  have hk := zkl28 hf
  refine ⟨by omega, zCw.use (q_Ru_fillWords (d := 1) (Nat.le_refl _) ho) (by omega) (fun q μ1 e => ?_)⟩
  obtain ⟨rfl, e1, e2⟩ := e
  rw [← hW] at e1
  have p1 : μ1 (29 + f.toNat) = μ (29 + f.toNat) := e2 _ (by simp only [List.mem_cons, List.not_mem_nil, or_false]; omega)
  have ok0 := lst_ok (kind := 0) hM hWb
  have ok3 := lst_ok (kind := 3) hM hWb
  refine ⟨rfl, zCw.use (q_Ru_lastTold (d := 5) (Nat.le_refl _) hk (by rw [p1]; exact hL) e1 hWb) (by omega) (fun q μ2 e => ?_)⟩
  obtain ⟨rfl, e3⟩ := e
  refine ⟨_, rfl, ?_⟩
  have f2 : zfc [325, 326, 327] μ μ2 := (e2.tr e3).mo (by simp)
  have w2 : μ2 326 = W := (e3 326 (by decide)).trans e1
  refine zif (fun c => ?_) (fun c => ?_)
  · rw [lsV_u ok3] at c
    refine ⟨?_, ⟨W, w2, fun q => (by cases q), fun _ => rfl⟩, f2⟩
    unfold dpS
    simp only
    rw [if_neg c]
  have c3 : lstT W 3 cls = none := (lsV_u ok3).mp (Classical.not_not.mp c)
  have hdp : dpS W (some cls) (μ 8 owner) owed = tlV (μ 8 owner) (dpD (μ 8 owner) owed) (lstT W 0 cls) := by
    unfold dpS
    simp only
    rw [if_pos c3]
  have p2 : μ2 (29 + f.toNat) = μ (29 + f.toNat) := f2 _ (by simp only [List.mem_cons, List.not_mem_nil, or_false]; omega)
  refine zCw.use (q_Ru_lastTold (d := 5) (Nat.le_refl _) hk (by rw [p2]; exact hL) w2 hWb) (by omega) (fun q μ3 e => ?_)
  obtain ⟨rfl, e4⟩ := e
  have f3 : zfc [325, 326, 327] μ μ3 := (f2.tr e4).mo (by simp)
  have w3 : μ3 326 = W := (e4 326 (by decide)).trans w2
  refine ⟨_, rfl, ?_⟩
  rw [hdp]
  refine zif (fun c => ?_) (fun c => ?_)
  · rw [lsV_u ok0] at c
    refine ⟨?_, ⟨W, w3, fun q => (by cases q), fun _ => rfl⟩, f3⟩
    rcases e5 : lstT W 0 cls with _ | s
    · exact absurd e5 c
    show max 0 (min (μ 8 owner) (if (0 : Int) = 3 then 0 else s)) = clp (μ 8 owner) s
    rw [if_neg (by decide)]
    unfold clp
    repeat' split
    all_goals omega
  · have c0 : lstT W 0 cls = none := (lsV_u ok0).mp (Classical.not_not.mp c)
    refine ⟨fun _ => ⟨zI_s (by omega) (by omega), zI_s (by omega) (by omega)⟩, ?_, ⟨W, w3, fun q => (by cases q), fun _ => rfl⟩, f3⟩
    rw [c0, ← dpD_z]
    rfl
theorem q_M_deepBy {d : Nat} (hd : 48 ≤ d) {μ : zMem} {owner visitor owed back : Int} {F : Option (List Cls)} {W : Int → Int} (ho : 0 ≤ owner ∧ owner ≤ 6) (hF : FoM μ F) (hW : ∃ w, W = fillW owner visitor owed back (μ 357 (73 + 2 * owner)) (μ 357 (74 + 2 * owner)) (-1) (-1) (μ 357 72) (μ 357 151) w) (hWb : ∀ i : Int, 0 ≤ i → i < 60 → -1000000 ≤ W i ∧ W i ≤ 1000000) (hr : 0 ≤ μ 357 (73 + 2 * owner) ∧ μ 357 (73 + 2 * owner) ≤ 3) (hod : 0 ≤ owed ∧ owed ≤ 1000000) : zSp d 0 0 y_M_deepBy zT0 [vr 355, vi owner, vi visitor, vi owed, vi back] μ zT0 (fun r μ' => r = some (vi (dpS W F (μ 357 (73 + 2 * owner)) owed)) ∧ (∀ j : Int, j ≠ 20 → j ≠ 21 → j ≠ 22 → j ≠ 23 → μ' 355 j = μ 355 j) ∧ zfc [355, 367] μ μ') := by
  refine zSp.ss [vr 355, vi owner, vi visitor, vi owed, vi back, vx 0] rfl (w_M_deepBy (Nat.le_trans (by decide) hd)) rfl rfl ?_
  (try simp only [zit_e, Bool.and_eq_true, Bool.or_eq_true, Bool.not_eq_true', Bool.and_eq_false_iff, Bool.or_eq_false_iff, Bool.not_eq_false', zbe, zdt, zdf, zb2_p, zbp_0, zbp_1, zbp_inj, zbp_01, Bool.true_eq_false, Bool.false_eq_true, true_and, and_true, Decidable.not_not, Classical.not_not, implies_true, List.nil_append, List.cons_append, List.append_assoc, Option.some.injEq, Sum.inl.injEq, zSw_c, zSw_n]); (try simp only [zit_e, Bool.and_eq_true, Bool.or_eq_true, Bool.not_eq_true', Bool.and_eq_false_iff, Bool.or_eq_false_iff, Bool.not_eq_false', zbe, zdt, zdf, zb2_p, zbp_0, zbp_1, zbp_inj, zbp_01, Bool.true_eq_false, Bool.false_eq_true, true_and, and_true, Decidable.not_not, Classical.not_not, implies_true, List.nil_append, List.cons_append, List.append_assoc, Option.some.injEq, Sum.inl.injEq, zSw_c, zSw_n, zc_355, f_M_placeOf, g_M_placeOf, f_M_lesser, g_M_lesser]); (try simp only [zi_cs, zi_c0, zii_cs, zii_c0, zl_cs, zl_c0, zll_cs, zll_c0, zr_cs, zr_c0, zrr_cs, zrr_c0, zxs_cs, zxs_c0, zxx_cs, zxx_c0, zfree_c0, zfree_c1, zfree_cs, zfree_cz, zlong_i, zlong_r, zlong_x, zset_0, zset_s, true_and, and_true, Option.some.injEq, Sum.inl.injEq, Sum.inr.injEq, zb2_p, zbp_0, zbp_1, zbp_inj, zbp_01, Nat.zero_add, Nat.reduceAdd, implies_true, List.nil_append, List.cons_append, List.append_assoc, Int.not_lt, Int.not_le, Decidable.not_not, Int.zero_add, Int.reduceLE, Int.reduceLT, Int.reduceEq, Int.reduceNe, Int.reduceAdd, Int.reduceSub, Int.reduceMul, Int.reduceNeg, Int.reduceToNat, Nat.reduceMul, Nat.reduceLT, Nat.reduceEqDiff, and_self, ite_true, ite_false, zx1, zx2, zRecv, List.length_cons, List.length_nil, ne_eq, not_true_eq_false, not_false_eq_true, true_or, or_true, or_false, false_or, and_false, false_and, zf01, zf10, reduceCtorEq, zSw_c, zSw_n, zm_r, zit_T, zit_F, false_implies, true_implies, zc_355, f_M_placeOf, g_M_placeOf, f_M_lesser, g_M_lesser])
  rw [show 73 + 2 * owner + 1 - 1 = 73 + 2 * owner by omega]
  have htd : 0 ≤ owed.tdiv 100 ∧ owed.tdiv 100 ≤ 10000 := by
    rw [Int.tdiv_eq_ediv_of_nonneg hod.1]
    omega
  refine ⟨⟨ho, by omega⟩, zCw.use (q_M_sets (d := 2) (Nat.le_refl _) ho) (by omega) (fun q μ1 e => ?_)⟩
  obtain ⟨rfl, e1, e2⟩ := e
  refine ⟨rfl, ?_⟩
  have frq : ∀ {μ2 : zMem}, FT μ1 μ2 → (∀ j : Int, ¬ j = 20 → ¬ j = 21 → ¬ j = 22 → ¬ j = 23 → μ2 355 j = μ 355 j) ∧ zfc [355, 367] μ μ2 := by
    intro μ2 h
    refine ⟨fun j a1 a2 a3 a4 => ?_, (e2.tr h.1).mo (by simp)⟩
    rw [h.2 j a1 a2 a3 a4, e2 355 (by decide)]
  have p1 : μ1 357 = μ 357 := e2 357 (by decide)
  obtain ⟨w, hW⟩ := hW
  have hW1 : ∀ i : Int, 0 ≤ i → i < 10 → μ1 367 i = W i := fun i h0 h1 => by
    rw [e1 w i h0 h1, hW]
  rcases hF with ⟨h11, rfl⟩ | ⟨f, Q, cls, code, h11, hf, rfl, hL, hP, hM⟩
  · refine zCw.use (q_M_tells0 (d := 46) (Nat.le_refl _) (by rw [p1]; exact h11)) (by omega) (fun q μ2 e => ?_)
    obtain ⟨rfl, rfl⟩ := e
    refine ⟨_, rfl, ?_⟩
    rw [if_neg (by decide)]
    refine ⟨fun _ => ⟨zI_s (by omega) (by omega), zI_s (by omega) (by omega)⟩, ?_⟩
    refine zCw.use (q_M_tells0 (d := 46) (Nat.le_refl _) (by rw [p1]; exact h11)) (by omega) (fun q μ3 e => ?_)
    obtain ⟨rfl, rfl⟩ := e
    refine ⟨_, rfl, ?_, frq FT.rf⟩
    unfold dpS dpD
    rw [zit_e]
  have hWB : WB W := fun i h0 h1 => by
    have := hWb i h0 h1
    unfold okV
    omega
  refine zCw.use (q_M_tells1 (d := 46) (Nat.le_refl _) (by rw [p1]; exact h11) hf (by rw [p1]; exact hL) hP hW1 hWb (by decide) (by decide) (by decide)) (by omega) (fun q μ2 e => ?_)
  obtain ⟨rfl, e3⟩ := e
  refine ⟨_, rfl, ?_⟩
  rw [show (4 : Int) - 1 = 3 from rfl]
  have hdd : -1000000 ≤ dpD (μ 357 (73 + 2 * owner)) owed ∧ dpD (μ 357 (73 + 2 * owner)) owed ≤ 1000000 := by
    unfold dpD
    split <;> omega
  rcases c3 : lstT W 3 cls with _ | s
  · rw [if_neg (show ¬ tlV 1 0 none = 1 by decide)]
    have p2 : μ2 357 = μ 357 := (e3.1 357 (by decide)).trans p1
    refine ⟨fun _ => ⟨zI_s (by omega) (by omega), zI_s (by omega) (by omega)⟩, ?_⟩
    rw [← dpD_z]
    refine zCw.use (q_M_tells1 (d := 46) (Nat.le_refl _) (by rw [p2]; exact h11) hf (by rw [p2]; exact hL) hP (fun i h0 h1 => by rw [e3.1 367 (by decide)]; exact hW1 i h0 h1) hWb (by decide) (by omega) hdd) (by omega) (fun q μ3 e => ?_)
    obtain ⟨rfl, e4⟩ := e
    refine ⟨_, rfl, ?_, frq (e3.tr e4)⟩
    unfold dpS
    simp only
    rw [if_pos c3]
    rfl
  · have hs := lst_3 hM s c3
    rw [hs, if_pos (show tlV 1 0 (some 1) = 1 by decide)]
    refine ⟨?_, frq e3⟩
    unfold dpS
    simp only
    rw [if_neg (by rw [c3]; simp)]

