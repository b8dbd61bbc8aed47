/-! plans: what both tell -/
theorem ppS_0 {V : List D4} {p : Int} : ∀ n : Nat, ppS V (fun _ => 0) p n = 0
  | 0 => rfl
  | n + 1 => by
    rw [ppS, ppS_0 n]
    unfold zit
    repeat' split
    all_goals rfl
theorem poS_0 {V : List D4} {a b : Int} : ∀ n : Nat, poS V (fun _ => 0) a b n = 0
  | 0 => rfl
  | n + 1 => by
    rw [poS, poS_0 n]
    unfold zit
    split <;> rfl
theorem puP_0 {A : Lg} {V : List D4} {p : Int} : puP A V (fun _ => 0) p = puA A p := by
  unfold puP
  rw [ppS_0, Int.add_zero]
theorem owP_0 {A : Lg} {V : List D4} {a b : Int} : owP A V (fun _ => 0) a b = owL a b A.2.1 := by
  unfold owP
  rw [poS_0, Int.sub_zero]
theorem okQ_0 {A : Lg} {V : List D4} (hA : okA A) : okQ A V (fun _ => 0) := by
  refine ⟨fun p p0 p1 => ?_, fun a b _ _ _ _ _ => ?_⟩
  · rw [puP_0]
    exact hA.1 p p0 p1
  · rw [owP_0]
    exact owA hA
noncomputable def plA (Z : Zt) (F : Option (List Cls)) (A : Lg) (w : Int → Int) (V : List D4) : Int × Option (List Nat) := plN Z F A w V V.length 0 (fun _ => 0)
noncomputable def plV (V : List D4) (i : Int) (R : Int × Option (List Nat)) : Int := zit (i = -1) R.1 (zit (R.1 = 0 ∨ ¬ (0 ≤ i ∧ i < (V.length : Int))) (-1) (((R.2.getD []).getD i.toNat 0 : Nat) : Int))
theorem fl_Pl_37 : zFl "DebtDoors$Plan" 37 9 0 := ⟨_, rfl, by decide, (zTb_in 229 (by decide +kernel) (by decide +kernel)), rfl⟩
theorem fl_Pl_43 : zFl "DebtDoors$Plan" 43 1 0 := ⟨_, rfl, by decide, (zTb_in 180 (by decide +kernel) (by decide +kernel)), rfl⟩
theorem lv_Pl_46 : zLv "DebtDoors$Plan" 46 y_Le_owed 2 1 := ⟨⟨(zTb_in 1137 (by decide +kernel) (by decide +kernel)), m_Le_owed.1, m_Le_owed.2.1, m_Le_owed.2.2⟩, _, rfl, rfl⟩
def y_Pl_countRows : zMt := (⟨"DebtDoors$Plan", "countRows", "(LDebtDoors$Town;LDebtDoors$Rules;)I"⟩, prog_7_method_2_code, 6, some .int)
theorem d_Pl_countRows_0 : decode prog_7_method_2_code 0 = .ok (.aload_n 1, 1) := by decide +kernel
theorem d_Pl_countRows_1 : decode prog_7_method_2_code 1 = .ok (.getfield 37, 3) := by decide +kernel
theorem d_Pl_countRows_4 : decode prog_7_method_2_code 4 = .ok (.astore_n 3, 1) := by decide +kernel
theorem d_Pl_countRows_5 : decode prog_7_method_2_code 5 = .ok (.iconst 0, 1) := by decide +kernel
theorem d_Pl_countRows_6 : decode prog_7_method_2_code 6 = .ok (.istore 4, 2) := by decide +kernel
theorem d_Pl_countRows_8 : decode prog_7_method_2_code 8 = .ok (.iload 4, 2) := by decide +kernel
theorem d_Pl_countRows_10 : decode prog_7_method_2_code 10 = .ok (.bipush 7, 2) := by decide +kernel
theorem d_Pl_countRows_12 : decode prog_7_method_2_code 12 = .ok (.if_icmp .ge 60, 3) := by decide +kernel
theorem d_Pl_countRows_15 : decode prog_7_method_2_code 15 = .ok (.aload_n 0, 1) := by decide +kernel
theorem d_Pl_countRows_16 : decode prog_7_method_2_code 16 = .ok (.getfield 15, 3) := by decide +kernel
theorem d_Pl_countRows_19 : decode prog_7_method_2_code 19 = .ok (.iload 4, 2) := by decide +kernel
theorem d_Pl_countRows_21 : decode prog_7_method_2_code 21 = .ok (.aload_n 3, 1) := by decide +kernel
theorem d_Pl_countRows_22 : decode prog_7_method_2_code 22 = .ok (.getfield 43, 3) := by decide +kernel
theorem d_Pl_countRows_25 : decode prog_7_method_2_code 25 = .ok (.iload 4, 2) := by decide +kernel
theorem d_Pl_countRows_27 : decode prog_7_method_2_code 27 = .ok (.iaload, 1) := by decide +kernel
theorem d_Pl_countRows_28 : decode prog_7_method_2_code 28 = .ok (.iastore, 1) := by decide +kernel
theorem d_Pl_countRows_29 : decode prog_7_method_2_code 29 = .ok (.iconst 0, 1) := by decide +kernel
theorem d_Pl_countRows_30 : decode prog_7_method_2_code 30 = .ok (.istore 5, 2) := by decide +kernel
theorem d_Pl_countRows_32 : decode prog_7_method_2_code 32 = .ok (.iload 5, 2) := by decide +kernel
theorem d_Pl_countRows_34 : decode prog_7_method_2_code 34 = .ok (.bipush 7, 2) := by decide +kernel
theorem d_Pl_countRows_36 : decode prog_7_method_2_code 36 = .ok (.if_icmp .ge 30, 3) := by decide +kernel
theorem d_Pl_countRows_39 : decode prog_7_method_2_code 39 = .ok (.aload_n 0, 1) := by decide +kernel
theorem d_Pl_countRows_40 : decode prog_7_method_2_code 40 = .ok (.getfield 9, 3) := by decide +kernel
theorem d_Pl_countRows_43 : decode prog_7_method_2_code 43 = .ok (.iload 4, 2) := by decide +kernel
theorem d_Pl_countRows_45 : decode prog_7_method_2_code 45 = .ok (.bipush 7, 2) := by decide +kernel
theorem d_Pl_countRows_47 : decode prog_7_method_2_code 47 = .ok (.imul, 1) := by decide +kernel
theorem d_Pl_countRows_48 : decode prog_7_method_2_code 48 = .ok (.iload 5, 2) := by decide +kernel
theorem d_Pl_countRows_50 : decode prog_7_method_2_code 50 = .ok (.iadd, 1) := by decide +kernel
theorem d_Pl_countRows_51 : decode prog_7_method_2_code 51 = .ok (.aload_n 3, 1) := by decide +kernel
theorem d_Pl_countRows_52 : decode prog_7_method_2_code 52 = .ok (.iload 4, 2) := by decide +kernel
theorem d_Pl_countRows_54 : decode prog_7_method_2_code 54 = .ok (.iload 5, 2) := by decide +kernel
theorem d_Pl_countRows_56 : decode prog_7_method_2_code 56 = .ok (.invokevirtual 46, 3) := by decide +kernel
theorem d_Pl_countRows_59 : decode prog_7_method_2_code 59 = .ok (.iastore, 1) := by decide +kernel
theorem d_Pl_countRows_60 : decode prog_7_method_2_code 60 = .ok (.iinc 5 1, 3) := by decide +kernel
theorem d_Pl_countRows_63 : decode prog_7_method_2_code 63 = .ok (.goto (-31), 3) := by decide +kernel
theorem d_Pl_countRows_66 : decode prog_7_method_2_code 66 = .ok (.iinc 4 1, 3) := by decide +kernel
theorem d_Pl_countRows_69 : decode prog_7_method_2_code 69 = .ok (.goto (-61), 3) := by decide +kernel
theorem d_Pl_countRows_72 : decode prog_7_method_2_code 72 = .ok (.iconst 0, 1) := by decide +kernel
theorem d_Pl_countRows_73 : decode prog_7_method_2_code 73 = .ok (.istore 4, 2) := by decide +kernel
theorem d_Pl_countRows_75 : decode prog_7_method_2_code 75 = .ok (.iload 4, 2) := by decide +kernel
theorem d_Pl_countRows_77 : decode prog_7_method_2_code 77 = .ok (.sipush 256, 3) := by decide +kernel
theorem d_Pl_countRows_80 : decode prog_7_method_2_code 80 = .ok (.if_icmp .ge 17, 3) := by decide +kernel
theorem d_Pl_countRows_83 : decode prog_7_method_2_code 83 = .ok (.aload_n 0, 1) := by decide +kernel
theorem d_Pl_countRows_84 : decode prog_7_method_2_code 84 = .ok (.getfield 24, 3) := by decide +kernel
theorem d_Pl_countRows_87 : decode prog_7_method_2_code 87 = .ok (.iload 4, 2) := by decide +kernel
theorem d_Pl_countRows_89 : decode prog_7_method_2_code 89 = .ok (.iconst 0, 1) := by decide +kernel
theorem d_Pl_countRows_90 : decode prog_7_method_2_code 90 = .ok (.bastore, 1) := by decide +kernel
theorem d_Pl_countRows_91 : decode prog_7_method_2_code 91 = .ok (.iinc 4 1, 3) := by decide +kernel
theorem d_Pl_countRows_94 : decode prog_7_method_2_code 94 = .ok (.goto (-19), 3) := by decide +kernel
theorem d_Pl_countRows_97 : decode prog_7_method_2_code 97 = .ok (.aload_n 0, 1) := by decide +kernel
theorem d_Pl_countRows_98 : decode prog_7_method_2_code 98 = .ok (.iconst 0, 1) := by decide +kernel
theorem d_Pl_countRows_99 : decode prog_7_method_2_code 99 = .ok (.putfield 49, 3) := by decide +kernel
theorem d_Pl_countRows_102 : decode prog_7_method_2_code 102 = .ok (.aload_n 0, 1) := by decide +kernel
theorem d_Pl_countRows_103 : decode prog_7_method_2_code 103 = .ok (.aload_n 1, 1) := by decide +kernel
theorem d_Pl_countRows_104 : decode prog_7_method_2_code 104 = .ok (.aload_n 2, 1) := by decide +kernel
theorem d_Pl_countRows_105 : decode prog_7_method_2_code 105 = .ok (.iconst 0, 1) := by decide +kernel
theorem d_Pl_countRows_106 : decode prog_7_method_2_code 106 = .ok (.iconst 0, 1) := by decide +kernel
theorem d_Pl_countRows_107 : decode prog_7_method_2_code 107 = .ok (.invokevirtual 53, 3) := by decide +kernel
theorem d_Pl_countRows_110 : decode prog_7_method_2_code 110 = .ok (.ireturn, 1) := by decide +kernel
def w_Pl_countRows {d : Nat} (hd : 2 ≤ d) := (show SS ("DebtDoors$Plan", prog_7_method_2_code, 6) (some .int) d 0 0 0 0 _ from (sS (p1 := 5) (sRn 3 (rFr fl_Pl_37 nk_9_0 (rAn 1 d_Pl_countRows_0 rfl) d_Pl_countRows_1) d_Pl_countRows_4 rfl (by decide)) (sS (p1 := 72) (sS (p1 := 8) (sI (xE (rI d_Pl_countRows_5 rfl)) d_Pl_countRows_6 (by decide)) (sLp (ps := 66) (tt := 15) (pn := 72) (p1 := 0) (p2 := 0) (xC (rNot (rJ2 (tgt := 72) j_ge (rIl d_Pl_countRows_8) (rB d_Pl_countRows_10 rfl) d_Pl_countRows_12 (by decide)))) (sS (p1 := 29) (sAs (rFr fl_Pl_15 nk_5_1 (rAn 0 d_Pl_countRows_15 rfl) d_Pl_countRows_16) (rIl d_Pl_countRows_19) (xE (rIa (rFr fl_Pl_43 nk_1_0 (rAn 3 d_Pl_countRows_21 rfl) d_Pl_countRows_22) (rIl d_Pl_countRows_25) d_Pl_countRows_27)) d_Pl_countRows_28) (sS (p1 := 32) (sI (xE (rI d_Pl_countRows_29 rfl)) d_Pl_countRows_30 (by decide)) (sLp (ps := 60) (tt := 39) (pn := 66) (p1 := 0) (p2 := 0) (xC (rNot (rJ2 (tgt := 66) j_ge (rIl d_Pl_countRows_32) (rB d_Pl_countRows_34 rfl) d_Pl_countRows_36 (by decide)))) (sAs (rFr fl_Pl_9 nk_5_0 (rAn 0 d_Pl_countRows_39 rfl) d_Pl_countRows_40) (r2 o_add (r2 o_mul (rIl d_Pl_countRows_43) (rB d_Pl_countRows_45 rfl) d_Pl_countRows_47) (rIl d_Pl_countRows_48) d_Pl_countRows_50) (xE (rV p_Le_owed (Nat.le_trans (Nat.le_of_ble_eq_true rfl) hd) lv_Pl_46 (rAi (rAi (rAr rA0 (rAn 3 d_Pl_countRows_51 rfl)) (rIl d_Pl_countRows_52)) (rIl d_Pl_countRows_54)) (by decide) d_Pl_countRows_56)) d_Pl_countRows_59) (sGo (pn := 32) (sInc d_Pl_countRows_60 (by decide)) d_Pl_countRows_63 (by decide))))) (sGo (pn := 8) (sInc d_Pl_countRows_66 (by decide)) d_Pl_countRows_69 (by decide)))) (sS (p1 := 97) (sS (p1 := 75) (sI (xE (rI d_Pl_countRows_72 rfl)) d_Pl_countRows_73 (by decide)) (sLp (ps := 91) (tt := 83) (pn := 97) (p1 := 0) (p2 := 0) (xC (rNot (rJ2 (tgt := 97) j_ge (rIl d_Pl_countRows_75) (rSi d_Pl_countRows_77 rfl) d_Pl_countRows_80 (by decide)))) (sZs (rFr fl_Pl_24 nk_5_4 (rAn 0 d_Pl_countRows_83 rfl) d_Pl_countRows_84) (rIl d_Pl_countRows_87) (xE (rI d_Pl_countRows_89 rfl)) d_Pl_countRows_90) (sGo (pn := 75) (sInc d_Pl_countRows_91 (by decide)) d_Pl_countRows_94 (by decide)))) (sS (p1 := 102) (sP 7 fl_Pl_49 fp_5_7 nk_5_7 (rAn 0 d_Pl_countRows_97 rfl) (xE (rI d_Pl_countRows_98 rfl)) d_Pl_countRows_99 rfl) (sRi (xV lv_Pl_53 (xA (rAi (rAi (rAr (rAr (rAr rA0 (rAn 0 d_Pl_countRows_102 rfl)) (rAn 1 d_Pl_countRows_103 rfl)) (rAn 2 d_Pl_countRows_104 rfl)) (rI d_Pl_countRows_105 rfl)) (rI d_Pl_countRows_106 rfl))) (by decide) d_Pl_countRows_107) d_Pl_countRows_110 rfl))))))
theorem m_Pl_countRows : Cond.instanceMethod y_Pl_countRows.1 ∈ zTb ∧ Cond.selects y_Pl_countRows.1.cls y_Pl_countRows.1 y_Pl_countRows.1 ∈ zTb ∧ Cond.initialized y_Pl_countRows.1.cls ∈ zTb ∧ Cond.code y_Pl_countRows.1 y_Pl_countRows.2.1 y_Pl_countRows.2.2.1 y_Pl_countRows.2.2.2 ∈ zTb ∧ (y_Pl_countRows.1.cls ≠ "java/lang/invoke/MethodHandle" ∧ y_Pl_countRows.1.cls ≠ "java/lang/invoke/VarHandle" ∧ (parseMethodDescriptor y_Pl_countRows.1.desc).map (fun d => d.parameters.length) = some 2) ∧ y_Pl_countRows.2.2.1 ≤ 20 :=
  ⟨(zTb_in 1134 (by decide +kernel) (by decide +kernel)), (zTb_in 1135 (by decide +kernel) (by decide +kernel)), (zTb_in 147 (by decide +kernel) (by decide +kernel)), (zTb_in 1136 (by decide +kernel) (by decide +kernel)), by decide +kernel, by decide +kernel⟩
theorem lv_D_362 : zLv "DebtDoors" 362 y_Pl_countRows 2 5 := ⟨⟨(zTb_in 1133 (by decide +kernel) (by decide +kernel)), m_Pl_countRows.1, m_Pl_countRows.2.1, m_Pl_countRows.2.2⟩, _, rfl, rfl⟩
theorem nk_11_9 : zNk 11 9 = none := rfl
theorem fl_D_364 : zFl "DebtDoors" 364 5 8 := ⟨_, rfl, by decide, (zTb_in 437 (by decide +kernel) (by decide +kernel)), rfl⟩
def y_D_plan : zMt := (⟨"DebtDoors", "plan", "(I)I"⟩, prog_1_method_44_code, 3, some .int)
theorem d_D_plan_0 : decode prog_1_method_44_code 0 = .ok (.aload_n 0, 1) := by decide +kernel
theorem d_D_plan_1 : decode prog_1_method_44_code 1 = .ok (.getfield 65, 3) := by decide +kernel
theorem d_D_plan_4 : decode prog_1_method_44_code 4 = .ok (.aload_n 0, 1) := by decide +kernel
theorem d_D_plan_5 : decode prog_1_method_44_code 5 = .ok (.getfield 12, 3) := by decide +kernel
theorem d_D_plan_8 : decode prog_1_method_44_code 8 = .ok (.aload_n 0, 1) := by decide +kernel
theorem d_D_plan_9 : decode prog_1_method_44_code 9 = .ok (.getfield 51, 3) := by decide +kernel
theorem d_D_plan_12 : decode prog_1_method_44_code 12 = .ok (.invokevirtual 362, 3) := by decide +kernel
theorem d_D_plan_15 : decode prog_1_method_44_code 15 = .ok (.istore_n 2, 1) := by decide +kernel
theorem d_D_plan_16 : decode prog_1_method_44_code 16 = .ok (.iload_n 1, 1) := by decide +kernel
theorem d_D_plan_17 : decode prog_1_method_44_code 17 = .ok (.iconst (-1), 1) := by decide +kernel
theorem d_D_plan_18 : decode prog_1_method_44_code 18 = .ok (.if_icmp .ne 5, 3) := by decide +kernel
theorem d_D_plan_21 : decode prog_1_method_44_code 21 = .ok (.iload_n 2, 1) := by decide +kernel
theorem d_D_plan_22 : decode prog_1_method_44_code 22 = .ok (.ireturn, 1) := by decide +kernel
theorem d_D_plan_23 : decode prog_1_method_44_code 23 = .ok (.iload_n 2, 1) := by decide +kernel
theorem d_D_plan_24 : decode prog_1_method_44_code 24 = .ok (.ifCond .le 32, 3) := by decide +kernel
theorem d_D_plan_27 : decode prog_1_method_44_code 27 = .ok (.iload_n 1, 1) := by decide +kernel
theorem d_D_plan_28 : decode prog_1_method_44_code 28 = .ok (.iconst 0, 1) := by decide +kernel
theorem d_D_plan_29 : decode prog_1_method_44_code 29 = .ok (.aload_n 0, 1) := by decide +kernel
theorem d_D_plan_30 : decode prog_1_method_44_code 30 = .ok (.getfield 12, 3) := by decide +kernel
theorem d_D_plan_33 : decode prog_1_method_44_code 33 = .ok (.getfield 337, 3) := by decide +kernel
theorem d_D_plan_36 : decode prog_1_method_44_code 36 = .ok (.iconst 1, 1) := by decide +kernel
theorem d_D_plan_37 : decode prog_1_method_44_code 37 = .ok (.isub, 1) := by decide +kernel
theorem d_D_plan_38 : decode prog_1_method_44_code 38 = .ok (.invokestatic 104, 3) := by decide +kernel
theorem d_D_plan_41 : decode prog_1_method_44_code 41 = .ok (.ifCond .eq 15, 3) := by decide +kernel
theorem d_D_plan_44 : decode prog_1_method_44_code 44 = .ok (.aload_n 0, 1) := by decide +kernel
theorem d_D_plan_45 : decode prog_1_method_44_code 45 = .ok (.getfield 65, 3) := by decide +kernel
theorem d_D_plan_48 : decode prog_1_method_44_code 48 = .ok (.getfield 364, 3) := by decide +kernel
theorem d_D_plan_51 : decode prog_1_method_44_code 51 = .ok (.iload_n 1, 1) := by decide +kernel
theorem d_D_plan_52 : decode prog_1_method_44_code 52 = .ok (.iaload, 1) := by decide +kernel
theorem d_D_plan_53 : decode prog_1_method_44_code 53 = .ok (.goto 4, 3) := by decide +kernel
theorem d_D_plan_56 : decode prog_1_method_44_code 56 = .ok (.iconst (-1), 1) := by decide +kernel
theorem d_D_plan_57 : decode prog_1_method_44_code 57 = .ok (.ireturn, 1) := by decide +kernel
def w_D_plan {d : Nat} (hd : 2 ≤ d) := (show SS ("DebtDoors", prog_1_method_44_code, 3) (some .int) d 0 0 0 0 _ from (sS (p1 := 16) (sIn 2 (xV lv_D_362 (xA (rAr (rAr (rAr rA0 (rFr fl_D_65 nk_11_9 (rAn 0 d_D_plan_0 rfl) d_D_plan_1)) (rFr fl_D_12 nk_11_0 (rAn 0 d_D_plan_4 rfl) d_D_plan_5)) (rFr fl_D_51 nk_11_7 (rAn 0 d_D_plan_8 rfl) d_D_plan_9))) (by decide) d_D_plan_12) d_D_plan_15 rfl (by decide)) (sS (p1 := 23) (sIf (pn := 23) (tt := 21) (xC (rNot (rJ2 (tgt := 23) j_ne (rIn 1 d_D_plan_16 rfl) (rI d_D_plan_17 rfl) d_D_plan_18 (by decide)))) (sRi (xE (rIn 2 d_D_plan_21 rfl)) d_D_plan_22 rfl)) (sRi (xE (rT2 (rAnd (mm := 27) (rNot (rJ1 (tgt := 56) k_le (rIn 2 d_D_plan_23 rfl) d_D_plan_24 (by decide))) (rNot (rJ1 (tgt := 56) k_eq (rS p_D_between (Nat.le_trans (Nat.le_of_ble_eq_true rfl) hd) ls_D_104 (rAi (rAi (rAi rA0 (rIn 1 d_D_plan_27 rfl)) (rI d_D_plan_28 rfl)) (r2 o_sub (rF 8 fl_D_337 nk_9_8 (rFr fl_D_12 nk_11_0 (rAn 0 d_D_plan_29 rfl) d_D_plan_30) d_D_plan_33 rfl) (rI d_D_plan_36 rfl) d_D_plan_37)) (by decide) d_D_plan_38) d_D_plan_41 (by decide)))) (rGoE (p2 := 57) (rIa (rFr fl_D_364 nk_5_8 (rFr fl_D_65 nk_11_9 (rAn 0 d_D_plan_44 rfl) d_D_plan_45) d_D_plan_48) (rIn 1 d_D_plan_51 rfl) d_D_plan_52) d_D_plan_53 (by decide)) (rI d_D_plan_56 rfl))) d_D_plan_57 rfl))))
set_option maxRecDepth 20000 in
theorem q_Pl_countRows {d : Nat} (hd : 20 ≤ d) {μ : zMem} {Z : Zt} {F : Option (List Cls)} {A : Lg} {w : Int → Int} {V : List D4} (hC : CTx μ Z F A w) (hV : VCx 11 8 999 μ V) : zSp d 0 0 y_Pl_countRows zT0 [vr 334, vr 1, vr 324] μ zT0 (fun q μ' => q = some (vi (plA Z F A w V).1) ∧ CPl w μ μ' ∧ ∀ l, (plA Z F A w V).2 = some l → ∀ i : Nat, i < l.length → μ' 342 (i : Int) = ((l.getD i 0 : Nat) : Int)) := by
  have hl := hV.l
  have h8 := hV.1
  have hw := hC.2.2.2.2.2
  refine zSp.ss [vr 334, vr 1, vr 324, vx 0, vx 0, vx 0] rfl (w_Pl_countRows (by omega)) rfl rfl ?_
  (try simp only [zit_e, Bool.and_eq_true, Bool.or_eq_true, Bool.not_eq_true', Bool.and_eq_false_iff, Bool.or_eq_false_iff, Bool.not_eq_false', zbe, zdt, zdf, zb2_p, zbp_0, zbp_1, zbp_inj, zbp_01, Bool.true_eq_false, Bool.false_eq_true, true_and, and_true, Decidable.not_not, Classical.not_not, implies_true, List.nil_append, List.cons_append, List.append_assoc, Option.some.injEq, Sum.inl.injEq, zSw_c, zSw_n]); (try simp only [zit_e, Bool.and_eq_true, Bool.or_eq_true, Bool.not_eq_true', Bool.and_eq_false_iff, Bool.or_eq_false_iff, Bool.not_eq_false', zbe, zdt, zdf, zb2_p, zbp_0, zbp_1, zbp_inj, zbp_01, Bool.true_eq_false, Bool.false_eq_true, true_and, and_true, Decidable.not_not, Classical.not_not, implies_true, List.nil_append, List.cons_append, List.append_assoc, Option.some.injEq, Sum.inl.injEq, zSw_c, zSw_n, zc_334, zc_1, zc_2]); (try simp only [zi_cs, zi_c0, zii_cs, zii_c0, zl_cs, zl_c0, zll_cs, zll_c0, zr_cs, zr_c0, zrr_cs, zrr_c0, zxs_cs, zxs_c0, zxx_cs, zxx_c0, zfree_c0, zfree_c1, zfree_cs, zfree_cz, zlong_i, zlong_r, zlong_x, zset_0, zset_s, true_and, and_true, Option.some.injEq, Sum.inl.injEq, Sum.inr.injEq, zb2_p, zbp_0, zbp_1, zbp_inj, zbp_01, Nat.zero_add, Nat.reduceAdd, implies_true, List.nil_append, List.cons_append, List.append_assoc, Int.not_lt, Int.not_le, Decidable.not_not, Int.zero_add, Int.reduceLE, Int.reduceLT, Int.reduceEq, Int.reduceNe, Int.reduceAdd, Int.reduceSub, Int.reduceMul, Int.reduceNeg, Int.reduceToNat, Nat.reduceMul, Nat.reduceLT, Nat.reduceEqDiff, and_self, ite_true, ite_false, zx1, zx2, zRecv, List.length_cons, List.length_nil, ne_eq, not_true_eq_false, not_false_eq_true, true_or, or_true, or_false, false_or, and_false, false_and, zf01, zf10, reduceCtorEq, zSw_c, zSw_n, zm_r, zit_T, zit_F, false_implies, true_implies, zc_334, zc_1, zc_2])
  refine zLoop.up 7 (fun j ρ ν => ∃ x : zV, ρ = [vr 334, vr 1, vr 324, vr 2, vi j, x] ∧ (∀ p : Int, 0 ≤ p → p < j → ν 336 p = puA A p) ∧ (∀ a b : Int, 0 ≤ a → a < j → 0 ≤ b → b < 7 → ν 335 (a * 7 + b) = owL a b A.2.1) ∧ zfc [335, 336] μ ν) ⟨_, rfl, fun p _ _ => by omega, fun a b _ _ => by omega, zfc.rf⟩ ?_
  rintro j ρ ν hj ⟨x, rfl, h1, h2, hf⟩
  have hCν := hC.k (μ' := ν) (fun c hc => hf c (by simp only [List.mem_cons, List.not_mem_nil, or_false]; omega)) (by rw [hf 326 (by decide)]; exact hw)
  (try simp only [zit_e, Bool.and_eq_true, Bool.or_eq_true, Bool.not_eq_true', Bool.and_eq_false_iff, Bool.or_eq_false_iff, Bool.not_eq_false', zbe, zdt, zdf, zb2_p, zbp_0, zbp_1, zbp_inj, zbp_01, Bool.true_eq_false, Bool.false_eq_true, true_and, and_true, Decidable.not_not, Classical.not_not, implies_true, List.nil_append, List.cons_append, List.append_assoc, Option.some.injEq, Sum.inl.injEq, zSw_c, zSw_n]); (try simp only [zit_e, Bool.and_eq_true, Bool.or_eq_true, Bool.not_eq_true', Bool.and_eq_false_iff, Bool.or_eq_false_iff, Bool.not_eq_false', zbe, zdt, zdf, zb2_p, zbp_0, zbp_1, zbp_inj, zbp_01, Bool.true_eq_false, Bool.false_eq_true, true_and, and_true, Decidable.not_not, Classical.not_not, implies_true, List.nil_append, List.cons_append, List.append_assoc, Option.some.injEq, Sum.inl.injEq, zSw_c, zSw_n, zc_334, zc_1, zc_2, f_Le_owed, g_Le_owed]); (try simp only [zi_cs, zi_c0, zii_cs, zii_c0, zl_cs, zl_c0, zll_cs, zll_c0, zr_cs, zr_c0, zrr_cs, zrr_c0, zxs_cs, zxs_c0, zxx_cs, zxx_c0, zfree_c0, zfree_c1, zfree_cs, zfree_cz, zlong_i, zlong_r, zlong_x, zset_0, zset_s, true_and, and_true, Option.some.injEq, Sum.inl.injEq, Sum.inr.injEq, zb2_p, zbp_0, zbp_1, zbp_inj, zbp_01, Nat.zero_add, Nat.reduceAdd, implies_true, List.nil_append, List.cons_append, List.append_assoc, Int.not_lt, Int.not_le, Decidable.not_not, Int.zero_add, Int.reduceLE, Int.reduceLT, Int.reduceEq, Int.reduceNe, Int.reduceAdd, Int.reduceSub, Int.reduceMul, Int.reduceNeg, Int.reduceToNat, Nat.reduceMul, Nat.reduceLT, Nat.reduceEqDiff, and_self, ite_true, ite_false, zx1, zx2, zRecv, List.length_cons, List.length_nil, ne_eq, not_true_eq_false, not_false_eq_true, true_or, or_true, or_false, false_or, and_false, false_and, zf01, zf10, reduceCtorEq, zSw_c, zSw_n, zm_r, zit_T, zit_F, false_implies, true_implies, zc_334, zc_1, zc_2, f_Le_owed, g_Le_owed])
  refine zif (fun c => ?_) (fun c => ?_)
  · rw [(hCν.p).1 j (by omega) (by omega)]
    refine ⟨by omega, by omega, ⟨by omega, by omega⟩, ?_⟩
    refine zLoop.up 7 (fun i ρ ν2 => ρ = [vr 334, vr 1, vr 324, vr 2, vi j, vi i] ∧ (∀ p : Int, 0 ≤ p → p < (j : Int) + 1 → ν2 336 p = puA A p) ∧ (∀ a b : Int, (0 ≤ a ∧ a < j ∧ 0 ≤ b ∧ b < 7 ∨ a = j ∧ 0 ≤ b ∧ b < i) → ν2 335 (a * 7 + b) = owL a b A.2.1) ∧ zfc [335, 336] μ ν2) ⟨rfl, fun p p0 p1 => ?_, fun a b q => ?_, hf.zm (q := 336) (by decide)⟩ ?_
    · by_cases ep : p = j
      · rw [ep, zm_s]
      · rw [zm_o (by omega)]
        exact h1 p p0 (by omega)
    · rw [zm_off _ (by decide)]
      exact h2 a b (by omega) (by omega) (by omega) (by omega)
    rintro i ρ ν2 hi ⟨rfl, g1, g2, hf2⟩
    have hCν2 := hC.k (μ' := ν2) (fun c hc => hf2 c (by simp only [List.mem_cons, List.not_mem_nil, or_false]; omega)) (by rw [hf2 326 (by decide)]; exact hw)
    (try simp only [zit_e, Bool.and_eq_true, Bool.or_eq_true, Bool.not_eq_true', Bool.and_eq_false_iff, Bool.or_eq_false_iff, Bool.not_eq_false', zbe, zdt, zdf, zb2_p, zbp_0, zbp_1, zbp_inj, zbp_01, Bool.true_eq_false, Bool.false_eq_true, true_and, and_true, Decidable.not_not, Classical.not_not, implies_true, List.nil_append, List.cons_append, List.append_assoc, Option.some.injEq, Sum.inl.injEq, zSw_c, zSw_n]); (try simp only [zit_e, Bool.and_eq_true, Bool.or_eq_true, Bool.not_eq_true', Bool.and_eq_false_iff, Bool.or_eq_false_iff, Bool.not_eq_false', zbe, zdt, zdf, zb2_p, zbp_0, zbp_1, zbp_inj, zbp_01, Bool.true_eq_false, Bool.false_eq_true, true_and, and_true, Decidable.not_not, Classical.not_not, implies_true, List.nil_append, List.cons_append, List.append_assoc, Option.some.injEq, Sum.inl.injEq, zSw_c, zSw_n, zc_334, zc_1, zc_2, f_Le_owed, g_Le_owed]); (try simp only [zi_cs, zi_c0, zii_cs, zii_c0, zl_cs, zl_c0, zll_cs, zll_c0, zr_cs, zr_c0, zrr_cs, zrr_c0, zxs_cs, zxs_c0, zxx_cs, zxx_c0, zfree_c0, zfree_c1, zfree_cs, zfree_cz, zlong_i, zlong_r, zlong_x, zset_0, zset_s, true_and, and_true, Option.some.injEq, Sum.inl.injEq, Sum.inr.injEq, zb2_p, zbp_0, zbp_1, zbp_inj, zbp_01, Nat.zero_add, Nat.reduceAdd, implies_true, List.nil_append, List.cons_append, List.append_assoc, Int.not_lt, Int.not_le, Decidable.not_not, Int.zero_add, Int.reduceLE, Int.reduceLT, Int.reduceEq, Int.reduceNe, Int.reduceAdd, Int.reduceSub, Int.reduceMul, Int.reduceNeg, Int.reduceToNat, Nat.reduceMul, Nat.reduceLT, Nat.reduceEqDiff, and_self, ite_true, ite_false, zx1, zx2, zRecv, List.length_cons, List.length_nil, ne_eq, not_true_eq_false, not_false_eq_true, true_or, or_true, or_false, false_or, and_false, false_and, zf01, zf10, reduceCtorEq, zSw_c, zSw_n, zm_r, zit_T, zit_F, false_implies, true_implies, zc_334, zc_1, zc_2, f_Le_owed, g_Le_owed])
    refine zif (fun c2 => ?_) (fun c2 => ?_)
    · rw [hCν2.n.2.2.1]
      refine ⟨⟨by ((try simp only [zI_e]); (first | done | omega | skip)), by ((try simp only [zI_e]); (first | done | omega | skip))⟩, by omega, by omega, hCν2.d.2.2.2.1, by ((try simp only [zI_e]); (first | done | omega | skip)), znx (by omega) ⟨rfl, g1, fun a b q => ?_, hf2.zm (by decide)⟩⟩
      by_cases e : a = j ∧ b = i
      · rw [e.1, e.2, zit_t rfl]
      · rw [zit_f (by omega)]
        exact g2 a b (by omega)
    · have : i = 7 := by omega
      subst this
      exact ⟨by ((try simp only [zI_e]); (first | done | omega | skip)), znx (by omega) ⟨_, rfl, g1, fun a b q1 q2 q3 q4 => g2 a b (by omega), hf2⟩⟩
  · have : j = 7 := by omega
    subst this
    refine zLoop.up 256 (fun i ρ ν2 => ∃ x : zV, ρ = [vr 334, vr 1, vr 324, vr 2, vi i, x] ∧ (∀ q : Int, 0 ≤ q → q < i → ν2 339 q = 0) ∧ zfc [339] ν ν2) ⟨_, rfl, fun q _ _ => by omega, zfc.rf⟩ ?_
    rintro i ρ ν2 hi ⟨y, rfl, g1, hf2⟩
    (try simp only [zit_e, Bool.and_eq_true, Bool.or_eq_true, Bool.not_eq_true', Bool.and_eq_false_iff, Bool.or_eq_false_iff, Bool.not_eq_false', zbe, zdt, zdf, zb2_p, zbp_0, zbp_1, zbp_inj, zbp_01, Bool.true_eq_false, Bool.false_eq_true, true_and, and_true, Decidable.not_not, Classical.not_not, implies_true, List.nil_append, List.cons_append, List.append_assoc, Option.some.injEq, Sum.inl.injEq, zSw_c, zSw_n]); (try simp only [zit_e, Bool.and_eq_true, Bool.or_eq_true, Bool.not_eq_true', Bool.and_eq_false_iff, Bool.or_eq_false_iff, Bool.not_eq_false', zbe, zdt, zdf, zb2_p, zbp_0, zbp_1, zbp_inj, zbp_01, Bool.true_eq_false, Bool.false_eq_true, true_and, and_true, Decidable.not_not, Classical.not_not, implies_true, List.nil_append, List.cons_append, List.append_assoc, Option.some.injEq, Sum.inl.injEq, zSw_c, zSw_n, zc_334]); (try simp only [zi_cs, zi_c0, zii_cs, zii_c0, zl_cs, zl_c0, zll_cs, zll_c0, zr_cs, zr_c0, zrr_cs, zrr_c0, zxs_cs, zxs_c0, zxx_cs, zxx_c0, zfree_c0, zfree_c1, zfree_cs, zfree_cz, zlong_i, zlong_r, zlong_x, zset_0, zset_s, true_and, and_true, Option.some.injEq, Sum.inl.injEq, Sum.inr.injEq, zb2_p, zbp_0, zbp_1, zbp_inj, zbp_01, Nat.zero_add, Nat.reduceAdd, implies_true, List.nil_append, List.cons_append, List.append_assoc, Int.not_lt, Int.not_le, Decidable.not_not, Int.zero_add, Int.reduceLE, Int.reduceLT, Int.reduceEq, Int.reduceNe, Int.reduceAdd, Int.reduceSub, Int.reduceMul, Int.reduceNeg, Int.reduceToNat, Nat.reduceMul, Nat.reduceLT, Nat.reduceEqDiff, and_self, ite_true, ite_false, zx1, zx2, zRecv, List.length_cons, List.length_nil, ne_eq, not_true_eq_false, not_false_eq_true, true_or, or_true, or_false, false_or, and_false, false_and, zf01, zf10, reduceCtorEq, zSw_c, zSw_n, zm_r, zit_T, zit_F, false_implies, true_implies, zc_334])
    refine zif (fun c2 => ?_) (fun c2 => ?_)
    · refine ⟨by omega, by omega, by ((try simp only [zI_e]); (first | done | omega | skip)), znx (by omega) ⟨_, rfl, fun q q0 q1 => ?_, hf2.zm (by decide)⟩⟩
      by_cases e : q = i
      · rw [e, zit_t rfl]
      · rw [zit_f e]
        exact g1 q q0 (by omega)
    · have : i = 256 := by omega
      subst this
      have hff : zfc [334, 335, 336, 339] μ (zm ν2 334 7 0) := ((hf.tr hf2).mo (b := [334, 335, 336, 339]) (by simp)).zm (by decide)
      have hpl : CPl w μ (zm ν2 334 7 0) := ⟨hff.mo (by simp), by rw [hff 326 (by decide)]; exact hw⟩
      have hS : PlS A V (fun k => zbit ((0 : Nat) : Int) k) (fun _ => 0) (zm ν2 334 7 0) := by
        refine ⟨fun p p0 p1 => ?_, fun a b q1 q2 q3 q4 _ => ?_, fun i _ _ hz => absurd hz ?_⟩
        · rw [zm_off _ (by decide), hf2 336 (by decide), puP_0]
          exact h1 p p0 p1
        · rw [zm_off _ (by decide), hf2 335 (by decide), owP_0]
          exact h2 a b q1 q2 q3 q4
        · unfold zbit
          simp
      have hMm : MmC Z F A w V (zm ν2 334 7 0) := fun b hb => by
        rw [zm_off 339 (by decide), g1 b (by omega) (by omega)]
        exact ⟨Or.inl rfl, fun q => absurd q (by decide)⟩
      refine zCw.use (q_Pl_rowsBehind hC.2.1 V.length (d := 19) (by omega) (used := 0) (pl := 0) (P := fun _ => 0) (by omega) (hC.pl hpl) (hV.k (hpl.1 1 (by decide)) (fun c p q => hpl.1 c (by simp only [List.mem_cons, List.not_mem_nil, or_false]; omega))) hS (okQ_0 hC.2.1) (by decide) (by decide) (fun _ _ _ => rfl) hMm (Or.inl zm_s)) (by omega) (fun q μ3 e => ?_)
      obtain ⟨rfl, -, -, hF, -, hp3, -⟩ := e
      refine ⟨_, rfl, rfl, hpl.tr hp3, fun l e i hi => ?_⟩
      have := ((hF.2 zm_s).2 l e).2.2 i hi
      rwa [Nat.zero_add] at this
theorem q_D_plan {d : Nat} (hd : 22 ≤ d) {μ : zMem} {Z : Zt} {F : Option (List Cls)} {A : Lg} {w : Int → Int} {V : List D4} {x : Int} (hC : CTx μ Z F A w) (hV : VCx 11 8 999 μ V) : zSp d 0 0 y_D_plan zT0 [vr 0, vi x] μ zT0 (fun q μ' => q = some (vi (plV V x (plA Z F A w V))) ∧ CPl w μ μ') := by
  have hl := hV.l
  have h8 := hV.1
  refine zSp.ss [vr 0, vi x, vx 0] rfl (w_D_plan (by omega)) rfl rfl ?_
  (try simp only [zit_e, Bool.and_eq_true, Bool.or_eq_true, Bool.not_eq_true', Bool.and_eq_false_iff, Bool.or_eq_false_iff, Bool.not_eq_false', zbe, zdt, zdf, zb2_p, zbp_0, zbp_1, zbp_inj, zbp_01, Bool.true_eq_false, Bool.false_eq_true, true_and, and_true, Decidable.not_not, Classical.not_not, implies_true, List.nil_append, List.cons_append, List.append_assoc, Option.some.injEq, Sum.inl.injEq, zSw_c, zSw_n]); (try simp only [zit_e, Bool.and_eq_true, Bool.or_eq_true, Bool.not_eq_true', Bool.and_eq_false_iff, Bool.or_eq_false_iff, Bool.not_eq_false', zbe, zdt, zdf, zb2_p, zbp_0, zbp_1, zbp_inj, zbp_01, Bool.true_eq_false, Bool.false_eq_true, true_and, and_true, Decidable.not_not, Classical.not_not, implies_true, List.nil_append, List.cons_append, List.append_assoc, Option.some.injEq, Sum.inl.injEq, zSw_c, zSw_n, zc_0, zc_1, zc_324, zc_334, f_D_between, g_D_between]); (try simp only [zi_cs, zi_c0, zii_cs, zii_c0, zl_cs, zl_c0, zll_cs, zll_c0, zr_cs, zr_c0, zrr_cs, zrr_c0, zxs_cs, zxs_c0, zxx_cs, zxx_c0, zfree_c0, zfree_c1, zfree_cs, zfree_cz, zlong_i, zlong_r, zlong_x, zset_0, zset_s, true_and, and_true, Option.some.injEq, Sum.inl.injEq, Sum.inr.injEq, zb2_p, zbp_0, zbp_1, zbp_inj, zbp_01, Nat.zero_add, Nat.reduceAdd, implies_true, List.nil_append, List.cons_append, List.append_assoc, Int.not_lt, Int.not_le, Decidable.not_not, Int.zero_add, Int.reduceLE, Int.reduceLT, Int.reduceEq, Int.reduceNe, Int.reduceAdd, Int.reduceSub, Int.reduceMul, Int.reduceNeg, Int.reduceToNat, Nat.reduceMul, Nat.reduceLT, Nat.reduceEqDiff, and_self, ite_true, ite_false, zx1, zx2, zRecv, List.length_cons, List.length_nil, ne_eq, not_true_eq_false, not_false_eq_true, true_or, or_true, or_false, false_or, and_false, false_and, zf01, zf10, reduceCtorEq, zSw_c, zSw_n, zm_r, zit_T, zit_F, false_implies, true_implies, zc_0, zc_1, zc_324, zc_334, f_D_between, g_D_between])
  refine zCw.use (q_Pl_countRows (d := 20) (by decide) hC hV) (by omega) (fun q μ2 e => ?_)
  obtain ⟨rfl, hp, hf⟩ := e
  have hR : plK ((8 ^ V.length : Nat) : Int) V.length (plA Z F A w V) := plN_in (by omega) V.length 0 _
  refine ⟨_, rfl, ?_⟩
  unfold plV
  refine zif (fun c => ?_) (fun c => ?_)
  · rw [zit_t c]
    exact ⟨rfl, hp⟩
  rw [zit_f c, hp.1 1 (by decide), hl]
  generalize plA Z F A w V = R at *
  obtain ⟨r1, r2, r3⟩ := hR
  refine ⟨⟨fun _ => by ((try simp only [zI_e]); (first | done | omega | skip)), fun q => by omega⟩, ?_, hp⟩
  by_cases c2 : R.1 = 0 ∨ ¬ (0 ≤ x ∧ x < (V.length : Int))
  · rw [zit_t c2, zit_f (by omega)]
  · rw [zit_f c2, zit_t (by omega)]
    rcases hl2 : R.2 with _ | l
    · exact absurd (Or.inl (r2.mpr hl2)) c2
    · have h3 := r3 l hl2
      have := hf l hl2 x.toNat (by omega)
      rw [show ((x.toNat : Nat) : Int) = x by omega] at this
      exact this
/-! plans, the reference -/
/-- a ledger behind what was paid for -/
def PlL (A : Lg) (V : List D4) (P : Int → Int) (B : Lg) : Prop := okA B ∧ (∀ p : Int, 0 ≤ p → p < 7 → puA B p = puP A V P p) ∧ (∀ h v : Int, 0 ≤ h → h < 7 → 0 ≤ v → v < 7 → h ≠ v → owL h v B.2.1 = owP A V P h v) ∧ B.2.2 = A.2.2
theorem PlL_0 {A : Lg} {V : List D4} (hA : okA A) : PlL A V (fun _ => 0) A := ⟨hA, fun p _ _ => puP_0.symm, fun a b _ _ _ _ _ => owP_0.symm, rfl⟩
theorem PlL_up {Z : Zt} {A B : Lg} {V : List D4} {P : Int → Int} {i : Nat} (hZ : okZ Z) (h : PlL A V P B) (hV : ∀ x, x ∈ V → ok4 999 x) (hn : ∀ x, x ∈ V → x.1 < Z.1 ∧ x.2.1 < Z.1) (hi : i < V.length) (h0 : P i = 0) : (0 < plX A V P i → 0 ≤ payA Z B (dfV V i).2.1 (dfV V i).1 (dfV V i).2.2.2 ∧ payA Z B (dfV V i).2.1 (dfV V i).1 (dfV V i).2.2.2 = plX A V P i ∧ PlL A V (upF P i (plX A V P i)) (pdA B (dfV V i).2.1 (dfV V i).1 (plX A V P i))) ∧ (plX A V P i = 0 → PlL A V (upF P i (plX A V P i)) B) := by
  have hm := List.mem_of_getElem? (dfV_m (V := V) (k := i) (by omega) (by omega))
  obtain ⟨o1, o2, o3, o4, o5⟩ := hV _ hm
  obtain ⟨n1, n2⟩ := hn _ hm
  obtain ⟨b1, b2, b3, b4⟩ := h
  have hz7 := hZ.1.2
  have ex : plX A V P i = min (min (dfV V i).2.2.2 (min (puA B (dfV V i).2.1) (9999 - puA B (dfV V i).1))) (owL (dfV V i).2.1 (dfV V i).1 B.2.1) := by
    rw [b2 _ (by omega) (by omega), b2 _ (by omega) (by omega), b3 _ _ (by omega) (by omega) (by omega) (by omega) (fun q => o3 q.symm)]
    rfl
  have ho := owA (a := (dfV V i).2.1) (b := (dfV V i).1) b1
  refine ⟨fun hx => ?_, fun hx => ?_⟩
  · have hp : payA Z B (dfV V i).2.1 (dfV V i).1 (dfV V i).2.2.2 = plX A V P i := by
      rw [ex] at hx ⊢
      unfold payA payC muchC zit
      repeat' split
      all_goals omega
    have hp0 : 0 ≤ payA Z B (dfV V i).2.1 (dfV V i).1 (dfV V i).2.2.2 := by omega
    refine ⟨hp0, hp, ?_, fun p p0 p1 => ?_, fun a b q1 q2 q3 q4 q5 => ?_, b4⟩
    · have := pdA_ok hZ b1 hp0
      rw [← payA_m hp0, hp] at this
      exact this
    · rw [puP_up h0 hi, ← b2 p p0 p1]
      generalize plX A V P i = x at *
      unfold puA pdA mvP
      rw [gL_tL p0 (by omega)]
      have o3' := o3
      generalize (dfV V i).1 = v at *
      generalize (dfV V i).2.1 = h at *
      by_cases e1 : p = v
      · subst e1
        rw [zit_t rfl, zit_t rfl, zit_f (show ¬ h = p from fun q => o3' q.symm)]
        unfold puA
        omega
      · by_cases e2 : p = h
        · subst e2
          rw [zit_f e1, zit_t rfl, zit_f (show ¬ v = p from fun q => o3' q), zit_t rfl]
          unfold puA
          omega
        · rw [zit_f e1, zit_f e2, zit_f (fun q => e1 q.symm), zit_f (fun q => e2 q.symm)]
          unfold puA
          omega
    · rw [owP_up h0 hi, ← b3 a b q1 q2 q3 q4 q5]
      show owL a b (dpL (lsL _ _ _ B.2.1)) = _
      rw [owL_low b1.2.1 (by omega)]
      by_cases e : a = (dfV V i).2.1 ∧ b = (dfV V i).1
      · rw [if_pos e, zit_t ⟨e.1.symm, e.2.symm⟩, e.1, e.2]
        omega
      · rw [if_neg e, zit_f (fun q => e ⟨q.1.symm, q.2.symm⟩)]
        omega
  · rw [hx]
    refine ⟨b1, fun p p0 p1 => ?_, fun a b q1 q2 q3 q4 q5 => ?_, b4⟩
    · rw [puP_up h0 hi, ← b2 p p0 p1]
      unfold zit
      repeat' split
      all_goals omega
    · rw [owP_up h0 hi, ← b3 a b q1 q2 q3 q4 q5]
      unfold zit
      split <;> omega

