/-! the reference's parse -/
/-- its row of tokens: codes, numbers, places -/
abbrev zTk : Type := (Nat → Int) × (Nat → Int) × (Nat → Int) × Nat
def okK (Q : zTk) : Prop := Q.2.2.2 ≤ 400 ∧ (∀ u, Q.2.2.2 ≤ u → Q.1 u = 0) ∧ (∀ u, 0 ≤ Q.2.1 u) ∧ (∀ u, 0 ≤ Q.2.2.1 u)
def TKs (Q : zTk) (μ : zMem) : Prop := μ 355 16 = (Q.2.2.2 : Int) ∧ ∀ u : Nat, u ≤ Q.2.2.2 → μ 364 u = Q.1 u ∧ μ 365 u = Q.2.1 u ∧ μ 366 u = Q.2.2.1 u
/-- it stands at a token without a fault -/
def MSt (Q : zTk) (o : Bool) (t l : Nat) (μ : zMem) : Prop := TKs Q μ ∧ μ 355 17 = (t : Int) ∧ μ 355 18 = (l : Int) ∧ μ 355 19 = -1 ∧ μ 355 8 = (if o = true then 1 else 0) ∧ t ≤ Q.2.2.2
def FM (μ μ' : zMem) : Prop := zfc [355] μ μ' ∧ ∀ j : Int, j ≠ 17 → j ≠ 18 → j ≠ 19 → μ' 355 j = μ 355 j
theorem FM.rf {μ : zMem} : FM μ μ := ⟨zfc.rf, fun _ _ _ _ => rfl⟩
theorem FM.tr {a b c : zMem} (h1 : FM a b) (h2 : FM b c) : FM a c := ⟨(h1.1.tr h2.1).mo (by simp), fun j a1 a2 a3 => by rw [h2.2 j a1 a2 a3, h1.2 j a1 a2 a3]⟩
theorem FM_zm {μ : zMem} {j v : Int} (h : j = 17 ∨ j = 18 ∨ j = 19) : FM μ (zm μ 355 j v) := ⟨zfc.rf.zm (by decide), fun i a1 a2 a3 => zm_j (by omega)⟩
theorem TKs_c {Q : zTk} {μ μ' : zMem} (h : TKs Q μ) (h1 : FM μ μ') : TKs Q μ' := ⟨by rw [h1.2 16 (by decide) (by decide) (by decide)]; exact h.1, fun u hu => by rw [h1.1 364 (by decide), h1.1 365 (by decide), h1.1 366 (by decide)]; exact h.2 u hu⟩
/-- behind a parse -/
def MP (Q : zTk) (o : Bool) (R : PrR) (μ : zMem) : zRo := fun r μ' => r = none ∧ (∀ t1, R = (t1, none) → μ' 355 19 = Q.2.2.1 t1 ∧ FM μ μ') ∧ ∀ t1 l1 m c, R = (t1, some (l1, m, c)) → MSt Q o t1 l1 μ' ∧ FM μ μ'
def MCT (d : Nat) (y : zMt) (as : List zV) (Q : zTk) (o : Bool) (pp : Pr) : Prop := (∀ (μ : zMem) (t l w : Nat), MSt Q o t l μ → l ≤ 50 → zSp d 0 0 y zT0 (vr 355 :: as) μ zT0 (MP Q o (pp t l w) μ)) ∧ ∀ μ : zMem, ¬ μ 355 19 = -1 → zSp d 0 0 y zT0 (vr 355 :: as) μ zT0 (fun r μ' => r = none ∧ μ' = μ)
theorem m_M_fine : Cond.instanceMethod y_M_fine.1 ∈ zTb ∧ Cond.selects y_M_fine.1.cls y_M_fine.1 y_M_fine.1 ∈ zTb ∧ Cond.initialized y_M_fine.1.cls ∈ zTb ∧ Cond.code y_M_fine.1 y_M_fine.2.1 y_M_fine.2.2.1 y_M_fine.2.2.2 ∈ zTb ∧ (y_M_fine.1.cls ≠ "java/lang/invoke/MethodHandle" ∧ y_M_fine.1.cls ≠ "java/lang/invoke/VarHandle" ∧ (parseMethodDescriptor y_M_fine.1.desc).map (fun d => d.parameters.length) = some 0) ∧ y_M_fine.2.2.1 ≤ 20 :=
  ⟨(zTb_in 1725 (by decide +kernel) (by decide +kernel)), (List.mem_filter.mpr ⟨List.mem_append_left _ (by decide +kernel), by decide +kernel⟩), (zTb_in 151 (by decide +kernel) (by decide +kernel)), (zTb_in 1726 (by decide +kernel) (by decide +kernel)), by decide +kernel, by decide +kernel⟩
theorem lv_M_203 : zLv "DebtDoorsModel" 203 y_M_fine 0 12 := ⟨⟨(zTb_in 1723 (by decide +kernel) (by decide +kernel)), m_M_fine.1, m_M_fine.2.1, m_M_fine.2.2⟩, _, rfl, rfl⟩
theorem fp_12_19 : zFp 12 19 0 := ⟨_, rfl, rfl, rfl, by decide⟩
theorem nk_12_15 : zNk 12 15 = none := rfl
theorem fl_M_207 : zFl "DebtDoorsModel" 207 12 17 := ⟨_, rfl, by decide, (zTb_in 1343 (by decide +kernel) (by decide +kernel)), rfl⟩
theorem nk_12_17 : zNk 12 17 = some 0 := rfl
def y_M_faults : zMt := (⟨"DebtDoorsModel", "faults", "()V"⟩, prog_14_method_42_code, 1, none)
theorem d_M_faults_0 : decode prog_14_method_42_code 0 = .ok (.aload_n 0, 1) := by decide +kernel
theorem d_M_faults_1 : decode prog_14_method_42_code 1 = .ok (.invokevirtual 203, 3) := by decide +kernel
theorem d_M_faults_4 : decode prog_14_method_42_code 4 = .ok (.ifCond .eq 16, 3) := by decide +kernel
theorem d_M_faults_7 : decode prog_14_method_42_code 7 = .ok (.aload_n 0, 1) := by decide +kernel
theorem d_M_faults_8 : decode prog_14_method_42_code 8 = .ok (.aload_n 0, 1) := by decide +kernel
theorem d_M_faults_9 : decode prog_14_method_42_code 9 = .ok (.getfield 56, 3) := by decide +kernel
theorem d_M_faults_12 : decode prog_14_method_42_code 12 = .ok (.aload_n 0, 1) := by decide +kernel
theorem d_M_faults_13 : decode prog_14_method_42_code 13 = .ok (.getfield 207, 3) := by decide +kernel
theorem d_M_faults_16 : decode prog_14_method_42_code 16 = .ok (.iaload, 1) := by decide +kernel
theorem d_M_faults_17 : decode prog_14_method_42_code 17 = .ok (.putfield 200, 3) := by decide +kernel
theorem d_M_faults_20 : decode prog_14_method_42_code 20 = .ok (.return_, 1) := by decide +kernel
def w_M_faults {d : Nat} (hd : 2 ≤ d) := (show SS ("DebtDoorsModel", prog_14_method_42_code, 1) (none) d 0 0 0 0 _ from (sS (p1 := 20) (sIf (pn := 20) (tt := 7) (xC (rNot (rJ1 (tgt := 20) k_eq (rV p_M_fine (Nat.le_trans (Nat.le_of_ble_eq_true rfl) hd) lv_M_203 (rAr rA0 (rAn 0 d_M_faults_0 rfl)) (by decide) d_M_faults_1) d_M_faults_4 (by decide)))) (sP 19 fl_M_200 fp_12_19 nk_12_19 (rAn 0 d_M_faults_7 rfl) (xE (rIa (rFr fl_M_56 nk_12_15 (rAn 0 d_M_faults_8 rfl) d_M_faults_9) (rF 17 fl_M_207 nk_12_17 (rAn 0 d_M_faults_12 rfl) d_M_faults_13 rfl) d_M_faults_16)) d_M_faults_17 rfl)) (sRv d_M_faults_20 rfl)))
theorem nk_12_13 : zNk 12 13 = none := rfl
theorem fp_12_17 : zFp 12 17 0 := ⟨_, rfl, rfl, rfl, by decide⟩
def y_M_takes0 : zMt := (⟨"DebtDoorsModel", "takes0", "(I)Z"⟩, prog_14_method_43_code, 3, some .boolean)
theorem d_M_takes0_0 : decode prog_14_method_43_code 0 = .ok (.aload_n 0, 1) := by decide +kernel
theorem d_M_takes0_1 : decode prog_14_method_43_code 1 = .ok (.invokevirtual 203, 3) := by decide +kernel
theorem d_M_takes0_4 : decode prog_14_method_43_code 4 = .ok (.ifCond .eq 20, 3) := by decide +kernel
theorem d_M_takes0_7 : decode prog_14_method_43_code 7 = .ok (.aload_n 0, 1) := by decide +kernel
theorem d_M_takes0_8 : decode prog_14_method_43_code 8 = .ok (.getfield 50, 3) := by decide +kernel
theorem d_M_takes0_11 : decode prog_14_method_43_code 11 = .ok (.aload_n 0, 1) := by decide +kernel
theorem d_M_takes0_12 : decode prog_14_method_43_code 12 = .ok (.getfield 207, 3) := by decide +kernel
theorem d_M_takes0_15 : decode prog_14_method_43_code 15 = .ok (.iaload, 1) := by decide +kernel
theorem d_M_takes0_16 : decode prog_14_method_43_code 16 = .ok (.iload_n 1, 1) := by decide +kernel
theorem d_M_takes0_17 : decode prog_14_method_43_code 17 = .ok (.if_icmp .ne 7, 3) := by decide +kernel
theorem d_M_takes0_20 : decode prog_14_method_43_code 20 = .ok (.iconst 1, 1) := by decide +kernel
theorem d_M_takes0_21 : decode prog_14_method_43_code 21 = .ok (.goto 4, 3) := by decide +kernel
theorem d_M_takes0_24 : decode prog_14_method_43_code 24 = .ok (.iconst 0, 1) := by decide +kernel
theorem d_M_takes0_25 : decode prog_14_method_43_code 25 = .ok (.istore_n 2, 1) := by decide +kernel
theorem d_M_takes0_26 : decode prog_14_method_43_code 26 = .ok (.iload_n 2, 1) := by decide +kernel
theorem d_M_takes0_27 : decode prog_14_method_43_code 27 = .ok (.ifCond .eq 13, 3) := by decide +kernel
theorem d_M_takes0_30 : decode prog_14_method_43_code 30 = .ok (.aload_n 0, 1) := by decide +kernel
theorem d_M_takes0_31 : decode prog_14_method_43_code 31 = .ok (.dup, 1) := by decide +kernel
theorem d_M_takes0_32 : decode prog_14_method_43_code 32 = .ok (.getfield 207, 3) := by decide +kernel
theorem d_M_takes0_35 : decode prog_14_method_43_code 35 = .ok (.iconst 1, 1) := by decide +kernel
theorem d_M_takes0_36 : decode prog_14_method_43_code 36 = .ok (.iadd, 1) := by decide +kernel
theorem d_M_takes0_37 : decode prog_14_method_43_code 37 = .ok (.putfield 207, 3) := by decide +kernel
theorem d_M_takes0_40 : decode prog_14_method_43_code 40 = .ok (.iload_n 2, 1) := by decide +kernel
theorem d_M_takes0_41 : decode prog_14_method_43_code 41 = .ok (.ireturn, 1) := by decide +kernel
def w_M_takes0 {d : Nat} (hd : 2 ≤ d) := (show SS ("DebtDoorsModel", prog_14_method_43_code, 3) (some .boolean) d 0 0 0 0 _ from (sS (p1 := 26) (sIn 2 (xE (rTb (rAnd (mm := 7) (rNot (rJ1 (tgt := 24) k_eq (rV p_M_fine (Nat.le_trans (Nat.le_of_ble_eq_true rfl) hd) lv_M_203 (rAr rA0 (rAn 0 d_M_takes0_0 rfl)) (by decide) d_M_takes0_1) d_M_takes0_4 (by decide))) (rNot (rJ2 (tgt := 24) j_ne (rIa (rFr fl_M_50 nk_12_13 (rAn 0 d_M_takes0_7 rfl) d_M_takes0_8) (rF 17 fl_M_207 nk_12_17 (rAn 0 d_M_takes0_11 rfl) d_M_takes0_12 rfl) d_M_takes0_15) (rIn 1 d_M_takes0_16 rfl) d_M_takes0_17 (by decide)))) (rGoE (p2 := 25) (rI d_M_takes0_20 rfl) d_M_takes0_21 (by decide)) (rI d_M_takes0_24 rfl))) d_M_takes0_25 rfl (by decide)) (sS (p1 := 40) (sIf (pn := 40) (tt := 30) (xC (rNot (rJ1 (tgt := 40) k_eq (rIn 2 d_M_takes0_26 rfl) d_M_takes0_27 (by decide)))) (sPo 17 o_add fl_M_207 fp_12_17 nk_12_17 (rAn 0 d_M_takes0_30 rfl) d_M_takes0_31 d_M_takes0_32 (rI d_M_takes0_35 rfl) d_M_takes0_36 d_M_takes0_37 rfl)) (sRz (xE (rIn 2 d_M_takes0_40 rfl)) d_M_takes0_41 rfl))))
theorem m_M_takes0 : Cond.instanceMethod y_M_takes0.1 ∈ zTb ∧ Cond.selects y_M_takes0.1.cls y_M_takes0.1 y_M_takes0.1 ∈ zTb ∧ Cond.initialized y_M_takes0.1.cls ∈ zTb ∧ Cond.code y_M_takes0.1 y_M_takes0.2.1 y_M_takes0.2.2.1 y_M_takes0.2.2.2 ∈ zTb ∧ (y_M_takes0.1.cls ≠ "java/lang/invoke/MethodHandle" ∧ y_M_takes0.1.cls ≠ "java/lang/invoke/VarHandle" ∧ (parseMethodDescriptor y_M_takes0.1.desc).map (fun d => d.parameters.length) = some 1) ∧ y_M_takes0.2.2.1 ≤ 20 :=
  ⟨(zTb_in 1721 (by decide +kernel) (by decide +kernel)), (List.mem_filter.mpr ⟨List.mem_append_left _ (by decide +kernel), by decide +kernel⟩), (zTb_in 151 (by decide +kernel) (by decide +kernel)), (zTb_in 1722 (by decide +kernel) (by decide +kernel)), by decide +kernel, by decide +kernel⟩
theorem lv_M_210 : zLv "DebtDoorsModel" 210 y_M_takes0 1 12 := ⟨⟨(zTb_in 1719 (by decide +kernel) (by decide +kernel)), m_M_takes0.1, m_M_takes0.2.1, m_M_takes0.2.2⟩, _, rfl, rfl⟩
theorem m_M_faults : Cond.instanceMethod y_M_faults.1 ∈ zTb ∧ Cond.selects y_M_faults.1.cls y_M_faults.1 y_M_faults.1 ∈ zTb ∧ Cond.initialized y_M_faults.1.cls ∈ zTb ∧ Cond.code y_M_faults.1 y_M_faults.2.1 y_M_faults.2.2.1 y_M_faults.2.2.2 ∈ zTb ∧ (y_M_faults.1.cls ≠ "java/lang/invoke/MethodHandle" ∧ y_M_faults.1.cls ≠ "java/lang/invoke/VarHandle" ∧ (parseMethodDescriptor y_M_faults.1.desc).map (fun d => d.parameters.length) = some 0) ∧ y_M_faults.2.2.1 ≤ 20 :=
  ⟨(zTb_in 1741 (by decide +kernel) (by decide +kernel)), (List.mem_filter.mpr ⟨List.mem_append_left _ (by decide +kernel), by decide +kernel⟩), (zTb_in 151 (by decide +kernel) (by decide +kernel)), (zTb_in 1742 (by decide +kernel) (by decide +kernel)), by decide +kernel, by decide +kernel⟩
theorem lv_M_213 : zLv "DebtDoorsModel" 213 y_M_faults 0 12 := ⟨⟨(zTb_in 1739 (by decide +kernel) (by decide +kernel)), m_M_faults.1, m_M_faults.2.1, m_M_faults.2.2⟩, _, rfl, rfl⟩
def y_M_must : zMt := (⟨"DebtDoorsModel", "must", "(I)V"⟩, prog_14_method_44_code, 2, none)
theorem d_M_must_0 : decode prog_14_method_44_code 0 = .ok (.aload_n 0, 1) := by decide +kernel
theorem d_M_must_1 : decode prog_14_method_44_code 1 = .ok (.iload_n 1, 1) := by decide +kernel
theorem d_M_must_2 : decode prog_14_method_44_code 2 = .ok (.invokevirtual 210, 3) := by decide +kernel
theorem d_M_must_5 : decode prog_14_method_44_code 5 = .ok (.ifCond .ne 7, 3) := by decide +kernel
theorem d_M_must_8 : decode prog_14_method_44_code 8 = .ok (.aload_n 0, 1) := by decide +kernel
theorem d_M_must_9 : decode prog_14_method_44_code 9 = .ok (.invokevirtual 213, 3) := by decide +kernel
theorem d_M_must_12 : decode prog_14_method_44_code 12 = .ok (.return_, 1) := by decide +kernel
def w_M_must {d : Nat} (hd : 1 ≤ d) := (show SS ("DebtDoorsModel", prog_14_method_44_code, 2) (none) d 0 0 0 0 _ from (sS (p1 := 12) (sIf (pn := 12) (tt := 8) (xNot (xJ1 (tgt := 12) k_ne (xV lv_M_210 (xA (rAi (rAr rA0 (rAn 0 d_M_must_0 rfl)) (rIn 1 d_M_must_1 rfl))) (by decide) d_M_must_2) d_M_must_5 (by decide))) (sV (xVv lv_M_213 (xA (rAr rA0 (rAn 0 d_M_must_8 rfl))) (by decide) d_M_must_9))) (sRv d_M_must_12 rfl)))
theorem fl_M_216 : zFl "DebtDoorsModel" 216 12 18 := ⟨_, rfl, by decide, (zTb_in 1344 (by decide +kernel) (by decide +kernel)), rfl⟩
theorem nk_12_18 : zNk 12 18 = some 0 := rfl
theorem fp_12_18 : zFp 12 18 0 := ⟨_, rfl, rfl, rfl, by decide⟩
def y_M_leaf : zMt := (⟨"DebtDoorsModel", "leaf", "()V"⟩, prog_14_method_45_code, 1, none)
theorem d_M_leaf_0 : decode prog_14_method_45_code 0 = .ok (.aload_n 0, 1) := by decide +kernel
theorem d_M_leaf_1 : decode prog_14_method_45_code 1 = .ok (.getfield 216, 3) := by decide +kernel
theorem d_M_leaf_4 : decode prog_14_method_45_code 4 = .ok (.bipush 50, 2) := by decide +kernel
theorem d_M_leaf_6 : decode prog_14_method_45_code 6 = .ok (.if_icmp .ne 7, 3) := by decide +kernel
theorem d_M_leaf_9 : decode prog_14_method_45_code 9 = .ok (.aload_n 0, 1) := by decide +kernel
theorem d_M_leaf_10 : decode prog_14_method_45_code 10 = .ok (.invokevirtual 213, 3) := by decide +kernel
theorem d_M_leaf_13 : decode prog_14_method_45_code 13 = .ok (.aload_n 0, 1) := by decide +kernel
theorem d_M_leaf_14 : decode prog_14_method_45_code 14 = .ok (.dup, 1) := by decide +kernel
theorem d_M_leaf_15 : decode prog_14_method_45_code 15 = .ok (.getfield 216, 3) := by decide +kernel
theorem d_M_leaf_18 : decode prog_14_method_45_code 18 = .ok (.iconst 1, 1) := by decide +kernel
theorem d_M_leaf_19 : decode prog_14_method_45_code 19 = .ok (.iadd, 1) := by decide +kernel
theorem d_M_leaf_20 : decode prog_14_method_45_code 20 = .ok (.putfield 216, 3) := by decide +kernel
theorem d_M_leaf_23 : decode prog_14_method_45_code 23 = .ok (.aload_n 0, 1) := by decide +kernel
theorem d_M_leaf_24 : decode prog_14_method_45_code 24 = .ok (.invokevirtual 203, 3) := by decide +kernel
theorem d_M_leaf_27 : decode prog_14_method_45_code 27 = .ok (.ifCond .eq 13, 3) := by decide +kernel
theorem d_M_leaf_30 : decode prog_14_method_45_code 30 = .ok (.aload_n 0, 1) := by decide +kernel
theorem d_M_leaf_31 : decode prog_14_method_45_code 31 = .ok (.dup, 1) := by decide +kernel
theorem d_M_leaf_32 : decode prog_14_method_45_code 32 = .ok (.getfield 207, 3) := by decide +kernel
theorem d_M_leaf_35 : decode prog_14_method_45_code 35 = .ok (.iconst 1, 1) := by decide +kernel
theorem d_M_leaf_36 : decode prog_14_method_45_code 36 = .ok (.iadd, 1) := by decide +kernel
theorem d_M_leaf_37 : decode prog_14_method_45_code 37 = .ok (.putfield 207, 3) := by decide +kernel
theorem d_M_leaf_40 : decode prog_14_method_45_code 40 = .ok (.return_, 1) := by decide +kernel
def w_M_leaf {d : Nat} (hd : 2 ≤ d) := (show SS ("DebtDoorsModel", prog_14_method_45_code, 1) (none) d 0 0 0 0 _ from (sS (p1 := 13) (sIf (pn := 13) (tt := 9) (xC (rNot (rJ2 (tgt := 13) j_ne (rF 18 fl_M_216 nk_12_18 (rAn 0 d_M_leaf_0 rfl) d_M_leaf_1 rfl) (rB d_M_leaf_4 rfl) d_M_leaf_6 (by decide)))) (sV (xVv lv_M_213 (xA (rAr rA0 (rAn 0 d_M_leaf_9 rfl))) (by decide) d_M_leaf_10))) (sS (p1 := 23) (sPo 18 o_add fl_M_216 fp_12_18 nk_12_18 (rAn 0 d_M_leaf_13 rfl) d_M_leaf_14 d_M_leaf_15 (rI d_M_leaf_18 rfl) d_M_leaf_19 d_M_leaf_20 rfl) (sS (p1 := 40) (sIf (pn := 40) (tt := 30) (xC (rNot (rJ1 (tgt := 40) k_eq (rV p_M_fine (Nat.le_trans (Nat.le_of_ble_eq_true rfl) hd) lv_M_203 (rAr rA0 (rAn 0 d_M_leaf_23 rfl)) (by decide) d_M_leaf_24) d_M_leaf_27 (by decide)))) (sPo 17 o_add fl_M_207 fp_12_17 nk_12_17 (rAn 0 d_M_leaf_30 rfl) d_M_leaf_31 d_M_leaf_32 (rI d_M_leaf_35 rfl) d_M_leaf_36 d_M_leaf_37 rfl)) (sRv d_M_leaf_40 rfl)))))
theorem nk_12_14 : zNk 12 14 = none := rfl
def y_M_mustNumber : zMt := (⟨"DebtDoorsModel", "mustNumber", "(II)V"⟩, prog_14_method_48_code, 3, none)
theorem d_M_mustNumber_0 : decode prog_14_method_48_code 0 = .ok (.aload_n 0, 1) := by decide +kernel
theorem d_M_mustNumber_1 : decode prog_14_method_48_code 1 = .ok (.invokevirtual 203, 3) := by decide +kernel
theorem d_M_mustNumber_4 : decode prog_14_method_48_code 4 = .ok (.ifCond .eq 38, 3) := by decide +kernel
theorem d_M_mustNumber_7 : decode prog_14_method_48_code 7 = .ok (.aload_n 0, 1) := by decide +kernel
theorem d_M_mustNumber_8 : decode prog_14_method_48_code 8 = .ok (.getfield 50, 3) := by decide +kernel
theorem d_M_mustNumber_11 : decode prog_14_method_48_code 11 = .ok (.aload_n 0, 1) := by decide +kernel
theorem d_M_mustNumber_12 : decode prog_14_method_48_code 12 = .ok (.getfield 207, 3) := by decide +kernel
theorem d_M_mustNumber_15 : decode prog_14_method_48_code 15 = .ok (.iaload, 1) := by decide +kernel
theorem d_M_mustNumber_16 : decode prog_14_method_48_code 16 = .ok (.bipush 50, 2) := by decide +kernel
theorem d_M_mustNumber_18 : decode prog_14_method_48_code 18 = .ok (.if_icmp .ne 20, 3) := by decide +kernel
theorem d_M_mustNumber_21 : decode prog_14_method_48_code 21 = .ok (.aload_n 0, 1) := by decide +kernel
theorem d_M_mustNumber_22 : decode prog_14_method_48_code 22 = .ok (.getfield 53, 3) := by decide +kernel
theorem d_M_mustNumber_25 : decode prog_14_method_48_code 25 = .ok (.aload_n 0, 1) := by decide +kernel
theorem d_M_mustNumber_26 : decode prog_14_method_48_code 26 = .ok (.getfield 207, 3) := by decide +kernel
theorem d_M_mustNumber_29 : decode prog_14_method_48_code 29 = .ok (.iaload, 1) := by decide +kernel
theorem d_M_mustNumber_30 : decode prog_14_method_48_code 30 = .ok (.iload_n 1, 1) := by decide +kernel
theorem d_M_mustNumber_31 : decode prog_14_method_48_code 31 = .ok (.iload_n 2, 1) := by decide +kernel
theorem d_M_mustNumber_32 : decode prog_14_method_48_code 32 = .ok (.invokestatic 123, 3) := by decide +kernel
theorem d_M_mustNumber_35 : decode prog_14_method_48_code 35 = .ok (.ifCond .ne 7, 3) := by decide +kernel
theorem d_M_mustNumber_38 : decode prog_14_method_48_code 38 = .ok (.aload_n 0, 1) := by decide +kernel
theorem d_M_mustNumber_39 : decode prog_14_method_48_code 39 = .ok (.invokevirtual 213, 3) := by decide +kernel
theorem d_M_mustNumber_42 : decode prog_14_method_48_code 42 = .ok (.aload_n 0, 1) := by decide +kernel
theorem d_M_mustNumber_43 : decode prog_14_method_48_code 43 = .ok (.invokevirtual 203, 3) := by decide +kernel
theorem d_M_mustNumber_46 : decode prog_14_method_48_code 46 = .ok (.ifCond .eq 13, 3) := by decide +kernel
theorem d_M_mustNumber_49 : decode prog_14_method_48_code 49 = .ok (.aload_n 0, 1) := by decide +kernel
theorem d_M_mustNumber_50 : decode prog_14_method_48_code 50 = .ok (.dup, 1) := by decide +kernel
theorem d_M_mustNumber_51 : decode prog_14_method_48_code 51 = .ok (.getfield 207, 3) := by decide +kernel
theorem d_M_mustNumber_54 : decode prog_14_method_48_code 54 = .ok (.iconst 1, 1) := by decide +kernel
theorem d_M_mustNumber_55 : decode prog_14_method_48_code 55 = .ok (.iadd, 1) := by decide +kernel
theorem d_M_mustNumber_56 : decode prog_14_method_48_code 56 = .ok (.putfield 207, 3) := by decide +kernel
theorem d_M_mustNumber_59 : decode prog_14_method_48_code 59 = .ok (.return_, 1) := by decide +kernel
def w_M_mustNumber {d : Nat} (hd : 2 ≤ d) := (show SS ("DebtDoorsModel", prog_14_method_48_code, 3) (none) d 0 0 0 0 _ from (sS (p1 := 42) (sIf (pn := 42) (tt := 38) (xC (rAnd (mm := 7) (rNot (rJ1 (tgt := 42) k_eq (rV p_M_fine (Nat.le_trans (Nat.le_of_ble_eq_true rfl) hd) lv_M_203 (rAr rA0 (rAn 0 d_M_mustNumber_0 rfl)) (by decide) d_M_mustNumber_1) d_M_mustNumber_4 (by decide))) (rOr (mm := 21) (rJ2 (tgt := 38) j_ne (rIa (rFr fl_M_50 nk_12_13 (rAn 0 d_M_mustNumber_7 rfl) d_M_mustNumber_8) (rF 17 fl_M_207 nk_12_17 (rAn 0 d_M_mustNumber_11 rfl) d_M_mustNumber_12 rfl) d_M_mustNumber_15) (rB d_M_mustNumber_16 rfl) d_M_mustNumber_18 (by decide)) (rNot (rJ1 (tgt := 42) k_ne (rS p_M_lies (Nat.le_trans (Nat.le_of_ble_eq_true rfl) hd) ls_M_123 (rAi (rAi (rAi rA0 (rIa (rFr fl_M_53 nk_12_14 (rAn 0 d_M_mustNumber_21 rfl) d_M_mustNumber_22) (rF 17 fl_M_207 nk_12_17 (rAn 0 d_M_mustNumber_25 rfl) d_M_mustNumber_26 rfl) d_M_mustNumber_29)) (rIn 1 d_M_mustNumber_30 rfl)) (rIn 2 d_M_mustNumber_31 rfl)) (by decide) d_M_mustNumber_32) d_M_mustNumber_35 (by decide)))))) (sV (xVv lv_M_213 (xA (rAr rA0 (rAn 0 d_M_mustNumber_38 rfl))) (by decide) d_M_mustNumber_39))) (sS (p1 := 59) (sIf (pn := 59) (tt := 49) (xC (rNot (rJ1 (tgt := 59) k_eq (rV p_M_fine (Nat.le_trans (Nat.le_of_ble_eq_true rfl) hd) lv_M_203 (rAr rA0 (rAn 0 d_M_mustNumber_42 rfl)) (by decide) d_M_mustNumber_43) d_M_mustNumber_46 (by decide)))) (sPo 17 o_add fl_M_207 fp_12_17 nk_12_17 (rAn 0 d_M_mustNumber_49 rfl) d_M_mustNumber_50 d_M_mustNumber_51 (rI d_M_mustNumber_54 rfl) d_M_mustNumber_55 d_M_mustNumber_56 rfl)) (sRv d_M_mustNumber_59 rfl))))
theorem q_M_faults {d : Nat} (hd : 2 ≤ d) {μ : zMem} (ht : μ 355 19 = -1 → 0 ≤ μ 355 17 ∧ μ 355 17 ≤ 400) : zSp d 0 0 y_M_faults zT0 [vr 355] μ zT0 (fun r μ' => r = none ∧ (μ 355 19 = -1 → μ' = zm μ 355 19 (μ 366 (μ 355 17))) ∧ (¬ μ 355 19 = -1 → μ' = μ)) := by
  refine zSp.ss [vr 355] rfl (w_M_faults (Nat.le_trans (by decide) hd)) rfl rfl ?_
  (try simp only [zit_e, Bool.and_eq_true, Bool.or_eq_true, Bool.not_eq_true', Bool.and_eq_false_iff, Bool.or_eq_false_iff, Bool.not_eq_false', zbe, zdt, zdf, zb2_p, zbp_0, zbp_1, zbp_inj, zbp_01, Bool.true_eq_false, Bool.false_eq_true, true_and, and_true, Decidable.not_not, Classical.not_not, implies_true, List.nil_append, List.cons_append, List.append_assoc, Option.some.injEq, Sum.inl.injEq, zSw_c, zSw_n]); (try simp only [zit_e, Bool.and_eq_true, Bool.or_eq_true, Bool.not_eq_true', Bool.and_eq_false_iff, Bool.or_eq_false_iff, Bool.not_eq_false', zbe, zdt, zdf, zb2_p, zbp_0, zbp_1, zbp_inj, zbp_01, Bool.true_eq_false, Bool.false_eq_true, true_and, and_true, Decidable.not_not, Classical.not_not, implies_true, List.nil_append, List.cons_append, List.append_assoc, Option.some.injEq, Sum.inl.injEq, zSw_c, zSw_n, zc_355, f_M_fine, g_M_fine]); (try simp only [zi_cs, zi_c0, zii_cs, zii_c0, zl_cs, zl_c0, zll_cs, zll_c0, zr_cs, zr_c0, zrr_cs, zrr_c0, zxs_cs, zxs_c0, zxx_cs, zxx_c0, zfree_c0, zfree_c1, zfree_cs, zfree_cz, zlong_i, zlong_r, zlong_x, zset_0, zset_s, true_and, and_true, Option.some.injEq, Sum.inl.injEq, Sum.inr.injEq, zb2_p, zbp_0, zbp_1, zbp_inj, zbp_01, Nat.zero_add, Nat.reduceAdd, implies_true, List.nil_append, List.cons_append, List.append_assoc, Int.not_lt, Int.not_le, Decidable.not_not, Int.zero_add, Int.reduceLE, Int.reduceLT, Int.reduceEq, Int.reduceNe, Int.reduceAdd, Int.reduceSub, Int.reduceMul, Int.reduceNeg, Int.reduceToNat, Nat.reduceMul, Nat.reduceLT, Nat.reduceEqDiff, and_self, ite_true, ite_false, zx1, zx2, zRecv, List.length_cons, List.length_nil, ne_eq, not_true_eq_false, not_false_eq_true, true_or, or_true, or_false, false_or, and_false, false_and, zf01, zf10, reduceCtorEq, zSw_c, zSw_n, zm_r, zit_T, zit_F, false_implies, true_implies, zc_355, f_M_fine, g_M_fine])
  refine zif (fun c => ?_) (fun c => ?_)
  · have := ht c
    refine ⟨by omega, ?_⟩
    exact fun q => absurd c q
  · exact fun q => absurd q c
theorem q_M_takes0 {d : Nat} (hd : 2 ≤ d) {μ : zMem} {k : Int} (ht : μ 355 19 = -1 → 0 ≤ μ 355 17 ∧ μ 355 17 ≤ 400) : zSp d 0 0 y_M_takes0 zT0 [vr 355, vi k] μ zT0 (fun r μ' => r = some (vi (zbp (μ 355 19 = -1 ∧ μ 364 (μ 355 17) = k))) ∧ (μ 355 19 = -1 ∧ μ 364 (μ 355 17) = k → μ' = zm μ 355 17 (μ 355 17 + 1)) ∧ (¬ (μ 355 19 = -1 ∧ μ 364 (μ 355 17) = k) → μ' = μ)) := by
  refine zSp.ss [vr 355, vi k, vx 0] rfl (w_M_takes0 (Nat.le_trans (by decide) hd)) rfl rfl ?_
  (try simp only [zit_e, Bool.and_eq_true, Bool.or_eq_true, Bool.not_eq_true', Bool.and_eq_false_iff, Bool.or_eq_false_iff, Bool.not_eq_false', zbe, zdt, zdf, zb2_p, zbp_0, zbp_1, zbp_inj, zbp_01, Bool.true_eq_false, Bool.false_eq_true, true_and, and_true, Decidable.not_not, Classical.not_not, implies_true, List.nil_append, List.cons_append, List.append_assoc, Option.some.injEq, Sum.inl.injEq, zSw_c, zSw_n]); (try simp only [zit_e, Bool.and_eq_true, Bool.or_eq_true, Bool.not_eq_true', Bool.and_eq_false_iff, Bool.or_eq_false_iff, Bool.not_eq_false', zbe, zdt, zdf, zb2_p, zbp_0, zbp_1, zbp_inj, zbp_01, Bool.true_eq_false, Bool.false_eq_true, true_and, and_true, Decidable.not_not, Classical.not_not, implies_true, List.nil_append, List.cons_append, List.append_assoc, Option.some.injEq, Sum.inl.injEq, zSw_c, zSw_n, zc_355, f_M_fine, g_M_fine]); (try simp only [zi_cs, zi_c0, zii_cs, zii_c0, zl_cs, zl_c0, zll_cs, zll_c0, zr_cs, zr_c0, zrr_cs, zrr_c0, zxs_cs, zxs_c0, zxx_cs, zxx_c0, zfree_c0, zfree_c1, zfree_cs, zfree_cz, zlong_i, zlong_r, zlong_x, zset_0, zset_s, true_and, and_true, Option.some.injEq, Sum.inl.injEq, Sum.inr.injEq, zb2_p, zbp_0, zbp_1, zbp_inj, zbp_01, Nat.zero_add, Nat.reduceAdd, implies_true, List.nil_append, List.cons_append, List.append_assoc, Int.not_lt, Int.not_le, Decidable.not_not, Int.zero_add, Int.reduceLE, Int.reduceLT, Int.reduceEq, Int.reduceNe, Int.reduceAdd, Int.reduceSub, Int.reduceMul, Int.reduceNeg, Int.reduceToNat, Nat.reduceMul, Nat.reduceLT, Nat.reduceEqDiff, and_self, ite_true, ite_false, zx1, zx2, zRecv, List.length_cons, List.length_nil, ne_eq, not_true_eq_false, not_false_eq_true, true_or, or_true, or_false, false_or, and_false, false_and, zf01, zf10, reduceCtorEq, zSw_c, zSw_n, zm_r, zit_T, zit_F, false_implies, true_implies, zc_355, f_M_fine, g_M_fine])
  refine ⟨fun c => by have := ht c; omega, ?_⟩
  refine zif (fun c => ?_) (fun c => ?_)
  · have := ht c.1
    exact ⟨by ((try simp only [zI_e]); (first | done | omega | skip)), Or.inr c, fun q => absurd c q⟩
  · exact ⟨Or.inl c, fun q => absurd q c⟩
section ZMP
variable {d : Nat} {Q : zTk} {o : Bool} {t l w : Nat} {μ : zMem} {K : zRo} {k : Int}
theorem MSt_at (hQ : okK Q) (h : MSt Q o t l μ) : (0 ≤ μ 355 17 ∧ μ 355 17 ≤ 400) ∧ μ 364 (μ 355 17) = Q.1 t ∧ μ 365 (μ 355 17) = Q.2.1 t ∧ μ 366 (μ 355 17) = Q.2.2.1 t := by
  obtain ⟨h1, h2, h3, h4, h5, h6⟩ := h
  have := h1.2 t h6
  rw [h2]
  have := hQ.1
  exact ⟨by omega, h1.2 t h6⟩
theorem MSt_go (hQ : okK Q) (h : MSt Q o t l μ) (hc : Q.1 t ≠ 0) : MSt Q o (t + 1) l (zm μ 355 17 (μ 355 17 + 1)) ∧ FM μ (zm μ 355 17 (μ 355 17 + 1)) := by
  have hF : FM μ (zm μ 355 17 (μ 355 17 + 1)) := FM_zm (Or.inl rfl)
  have hlt := zNlt hQ.2.1 hc
  obtain ⟨h1, h2, h3, h4, h5, h6⟩ := h
  refine ⟨⟨TKs_c h1 hF, ?_, ?_, ?_, ?_, by omega⟩, hF⟩
  · rw [zm_s, h2]
    rfl
  · rw [zm_j (by decide)]
    exact h3
  · rw [zm_j (by decide)]
    exact h4
  · rw [zm_j (by decide)]
    exact h5
theorem fa_w (hd : 3 ≤ d) (hQ : okK Q) (h : MSt Q o t l μ) (hk : ∀ μ', μ' 355 19 = Q.2.2.1 t → FM μ μ' → K none μ') : zCw d y_M_faults [vr 355] μ K :=
  zCw.use (q_M_faults (d := 2) (by decide) (fun _ => (MSt_at hQ h).1)) hd (fun q μ' e => by
    obtain ⟨rfl, e1, -⟩ := e
    have := e1 h.2.2.2.1
    subst this
    exact hk _ (by rw [zm_s, (MSt_at hQ h).2.2.2]) (FM_zm (Or.inr (Or.inr rfl))))
theorem fa_n (hd : 3 ≤ d) (h : ¬ μ 355 19 = -1) (hk : K none μ) : zCw d y_M_faults [vr 355] μ K :=
  zCw.use (q_M_faults (d := 2) (by decide) (fun q => absurd q h)) hd (fun q μ' e => by
    obtain ⟨rfl, -, e1⟩ := e
    rw [e1 h]
    exact hk)
theorem t0_w (hd : 3 ≤ d) (hQ : okK Q) (h : MSt Q o t l μ) (k0 : k ≠ 0) (hk : Q.1 t = k → ∀ μ', MSt Q o (t + 1) l μ' → FM μ μ' → K (some (vi 1)) μ') (hf : ¬ Q.1 t = k → K (some (vi 0)) μ) : zCw d y_M_takes0 [vr 355, vi k] μ K :=
  zCw.use (q_M_takes0 (d := 2) (by decide) (fun _ => (MSt_at hQ h).1)) hd (fun q μ' e => by
    obtain ⟨rfl, e1, e2⟩ := e
    have ha := (MSt_at hQ h).2.1
    rw [ha] at e1 e2 ⊢
    by_cases c : Q.1 t = k
    · have := e1 ⟨h.2.2.2.1, c⟩
      subst this
      obtain ⟨g1, g2⟩ := MSt_go hQ h (by rw [c]; exact k0)
      rw [zbt ⟨h.2.2.2.1, c⟩]
      exact hk c _ g1 g2
    · have := e2 (fun q => c q.2)
      subst this
      rw [zbf (fun q => c q.2)]
      exact hf c)
theorem t0_n (hd : 3 ≤ d) (h : ¬ μ 355 19 = -1) (hk : K (some (vi 0)) μ) : zCw d y_M_takes0 [vr 355, vi k] μ K :=
  zCw.use (q_M_takes0 (d := 2) (by decide) (fun q => absurd q h)) hd (fun q μ' e => by
    obtain ⟨rfl, -, e1⟩ := e
    rw [e1 (fun q => h q.1), zbf (fun q => h q.1)]
    exact hk)
theorem q_M_must (hd : 4 ≤ d) (hQ : okK Q) (h : MSt Q o t l μ) (k0 : k ≠ 0) : zSp d 0 0 y_M_must zT0 [vr 355, vi k] μ zT0 (fun r μ' => r = none ∧ FM μ μ' ∧ (Q.1 t = k → MSt Q o (t + 1) l μ') ∧ (¬ Q.1 t = k → μ' 355 19 = Q.2.2.1 t)) := by
  refine zSp.ss [vr 355, vi k] rfl (w_M_must (Nat.le_trans (by decide) hd)) rfl rfl ?_
  (try simp only [zit_e, Bool.and_eq_true, Bool.or_eq_true, Bool.not_eq_true', Bool.and_eq_false_iff, Bool.or_eq_false_iff, Bool.not_eq_false', zbe, zdt, zdf, zb2_p, zbp_0, zbp_1, zbp_inj, zbp_01, Bool.true_eq_false, Bool.false_eq_true, true_and, and_true, Decidable.not_not, Classical.not_not, implies_true, List.nil_append, List.cons_append, List.append_assoc, Option.some.injEq, Sum.inl.injEq, zSw_c, zSw_n]); (try simp only [zit_e, Bool.and_eq_true, Bool.or_eq_true, Bool.not_eq_true', Bool.and_eq_false_iff, Bool.or_eq_false_iff, Bool.not_eq_false', zbe, zdt, zdf, zb2_p, zbp_0, zbp_1, zbp_inj, zbp_01, Bool.true_eq_false, Bool.false_eq_true, true_and, and_true, Decidable.not_not, Classical.not_not, implies_true, List.nil_append, List.cons_append, List.append_assoc, Option.some.injEq, Sum.inl.injEq, zSw_c, zSw_n, zc_355]); (try simp only [zi_cs, zi_c0, zii_cs, zii_c0, zl_cs, zl_c0, zll_cs, zll_c0, zr_cs, zr_c0, zrr_cs, zrr_c0, zxs_cs, zxs_c0, zxx_cs, zxx_c0, zfree_c0, zfree_c1, zfree_cs, zfree_cz, zlong_i, zlong_r, zlong_x, zset_0, zset_s, true_and, and_true, Option.some.injEq, Sum.inl.injEq, Sum.inr.injEq, zb2_p, zbp_0, zbp_1, zbp_inj, zbp_01, Nat.zero_add, Nat.reduceAdd, implies_true, List.nil_append, List.cons_append, List.append_assoc, Int.not_lt, Int.not_le, Decidable.not_not, Int.zero_add, Int.reduceLE, Int.reduceLT, Int.reduceEq, Int.reduceNe, Int.reduceAdd, Int.reduceSub, Int.reduceMul, Int.reduceNeg, Int.reduceToNat, Nat.reduceMul, Nat.reduceLT, Nat.reduceEqDiff, and_self, ite_true, ite_false, zx1, zx2, zRecv, List.length_cons, List.length_nil, ne_eq, not_true_eq_false, not_false_eq_true, true_or, or_true, or_false, false_or, and_false, false_and, zf01, zf10, reduceCtorEq, zSw_c, zSw_n, zm_r, zit_T, zit_F, false_implies, true_implies, zc_355])
  refine t0_w (by omega) hQ h k0 (fun c μ1 a1 a2 => ⟨_, rfl, ?_⟩) (fun c => ⟨_, rfl, ?_⟩)
  · rw [if_neg (by decide)]
    exact ⟨a2, fun _ => a1, fun q => absurd c q⟩
  · rw [if_pos rfl]
    exact fa_w (by omega) hQ h (fun μ' a1 a2 => ⟨rfl, a2, fun q => absurd q c, fun _ => a1⟩)
theorem q_M_must_n (hd : 4 ≤ d) (h : ¬ μ 355 19 = -1) : zSp d 0 0 y_M_must zT0 [vr 355, vi k] μ zT0 (fun r μ' => r = none ∧ μ' = μ) := by
  refine zSp.ss [vr 355, vi k] rfl (w_M_must (Nat.le_trans (by decide) hd)) rfl rfl ?_
  (try simp only [zit_e, Bool.and_eq_true, Bool.or_eq_true, Bool.not_eq_true', Bool.and_eq_false_iff, Bool.or_eq_false_iff, Bool.not_eq_false', zbe, zdt, zdf, zb2_p, zbp_0, zbp_1, zbp_inj, zbp_01, Bool.true_eq_false, Bool.false_eq_true, true_and, and_true, Decidable.not_not, Classical.not_not, implies_true, List.nil_append, List.cons_append, List.append_assoc, Option.some.injEq, Sum.inl.injEq, zSw_c, zSw_n]); (try simp only [zit_e, Bool.and_eq_true, Bool.or_eq_true, Bool.not_eq_true', Bool.and_eq_false_iff, Bool.or_eq_false_iff, Bool.not_eq_false', zbe, zdt, zdf, zb2_p, zbp_0, zbp_1, zbp_inj, zbp_01, Bool.true_eq_false, Bool.false_eq_true, true_and, and_true, Decidable.not_not, Classical.not_not, implies_true, List.nil_append, List.cons_append, List.append_assoc, Option.some.injEq, Sum.inl.injEq, zSw_c, zSw_n, zc_355]); (try simp only [zi_cs, zi_c0, zii_cs, zii_c0, zl_cs, zl_c0, zll_cs, zll_c0, zr_cs, zr_c0, zrr_cs, zrr_c0, zxs_cs, zxs_c0, zxx_cs, zxx_c0, zfree_c0, zfree_c1, zfree_cs, zfree_cz, zlong_i, zlong_r, zlong_x, zset_0, zset_s, true_and, and_true, Option.some.injEq, Sum.inl.injEq, Sum.inr.injEq, zb2_p, zbp_0, zbp_1, zbp_inj, zbp_01, Nat.zero_add, Nat.reduceAdd, implies_true, List.nil_append, List.cons_append, List.append_assoc, Int.not_lt, Int.not_le, Decidable.not_not, Int.zero_add, Int.reduceLE, Int.reduceLT, Int.reduceEq, Int.reduceNe, Int.reduceAdd, Int.reduceSub, Int.reduceMul, Int.reduceNeg, Int.reduceToNat, Nat.reduceMul, Nat.reduceLT, Nat.reduceEqDiff, and_self, ite_true, ite_false, zx1, zx2, zRecv, List.length_cons, List.length_nil, ne_eq, not_true_eq_false, not_false_eq_true, true_or, or_true, or_false, false_or, and_false, false_and, zf01, zf10, reduceCtorEq, zSw_c, zSw_n, zm_r, zit_T, zit_F, false_implies, true_implies, zc_355])
  refine t0_n (by omega) h ⟨_, rfl, ?_⟩
  rw [if_pos rfl]
  exact fa_n (by omega) h ⟨rfl, rfl⟩
theorem q_M_leaf (hd : 4 ≤ d) (hQ : okK Q) (h : MSt Q o t l μ) (hl : l ≤ 50) (hc : Q.1 t ≠ 0) : zSp d 0 0 y_M_leaf zT0 [vr 355] μ zT0 (fun r μ' => r = none ∧ FM μ μ' ∧ (l < 50 → MSt Q o (t + 1) (l + 1) μ') ∧ (¬ l < 50 → μ' 355 19 = Q.2.2.1 t)) := by
  refine zSp.ss [vr 355] rfl (w_M_leaf (Nat.le_trans (by decide) hd)) rfl rfl ?_
  (try simp only [zit_e, Bool.and_eq_true, Bool.or_eq_true, Bool.not_eq_true', Bool.and_eq_false_iff, Bool.or_eq_false_iff, Bool.not_eq_false', zbe, zdt, zdf, zb2_p, zbp_0, zbp_1, zbp_inj, zbp_01, Bool.true_eq_false, Bool.false_eq_true, true_and, and_true, Decidable.not_not, Classical.not_not, implies_true, List.nil_append, List.cons_append, List.append_assoc, Option.some.injEq, Sum.inl.injEq, zSw_c, zSw_n]); (try simp only [zit_e, Bool.and_eq_true, Bool.or_eq_true, Bool.not_eq_true', Bool.and_eq_false_iff, Bool.or_eq_false_iff, Bool.not_eq_false', zbe, zdt, zdf, zb2_p, zbp_0, zbp_1, zbp_inj, zbp_01, Bool.true_eq_false, Bool.false_eq_true, true_and, and_true, Decidable.not_not, Classical.not_not, implies_true, List.nil_append, List.cons_append, List.append_assoc, Option.some.injEq, Sum.inl.injEq, zSw_c, zSw_n, zc_355, f_M_fine, g_M_fine]); (try simp only [zi_cs, zi_c0, zii_cs, zii_c0, zl_cs, zl_c0, zll_cs, zll_c0, zr_cs, zr_c0, zrr_cs, zrr_c0, zxs_cs, zxs_c0, zxx_cs, zxx_c0, zfree_c0, zfree_c1, zfree_cs, zfree_cz, zlong_i, zlong_r, zlong_x, zset_0, zset_s, true_and, and_true, Option.some.injEq, Sum.inl.injEq, Sum.inr.injEq, zb2_p, zbp_0, zbp_1, zbp_inj, zbp_01, Nat.zero_add, Nat.reduceAdd, implies_true, List.nil_append, List.cons_append, List.append_assoc, Int.not_lt, Int.not_le, Decidable.not_not, Int.zero_add, Int.reduceLE, Int.reduceLT, Int.reduceEq, Int.reduceNe, Int.reduceAdd, Int.reduceSub, Int.reduceMul, Int.reduceNeg, Int.reduceToNat, Nat.reduceMul, Nat.reduceLT, Nat.reduceEqDiff, and_self, ite_true, ite_false, zx1, zx2, zRecv, List.length_cons, List.length_nil, ne_eq, not_true_eq_false, not_false_eq_true, true_or, or_true, or_false, false_or, and_false, false_and, zf01, zf10, reduceCtorEq, zSw_c, zSw_n, zm_r, zit_T, zit_F, false_implies, true_implies, zc_355, f_M_fine, g_M_fine])
  have ha := MSt_at hQ h
  have h18 := h.2.2.1
  refine zif (fun c => ?_) (fun c => ?_)
  · refine zCw.use (q_M_faults (d := 2) (by decide) (fun _ => ha.1)) (by omega) (fun q μ' e => ?_)
    obtain ⟨rfl, e1, -⟩ := e
    have := e1 h.2.2.2.1
    subst this
    have hp := hQ.2.2.2 t
    simp only [zi_cs, zi_c0, zii_cs, zii_c0, zl_cs, zl_c0, zll_cs, zll_c0, zr_cs, zr_c0, zrr_cs, zrr_c0, zxs_cs, zxs_c0, zxx_cs, zxx_c0, zfree_c0, zfree_c1, zfree_cs, zfree_cz, zlong_i, zlong_r, zlong_x, zset_0, zset_s, true_and, and_true, Option.some.injEq, Sum.inl.injEq, Sum.inr.injEq, zb2_p, zbp_0, zbp_1, zbp_inj, zbp_01, Nat.zero_add, Nat.reduceAdd, implies_true, List.nil_append, List.cons_append, List.append_assoc, Int.not_lt, Int.not_le, Decidable.not_not, Int.zero_add, Int.reduceLE, Int.reduceLT, Int.reduceEq, Int.reduceNe, Int.reduceAdd, Int.reduceSub, Int.reduceMul, Int.reduceNeg, Int.reduceToNat, Nat.reduceMul, Nat.reduceLT, Nat.reduceEqDiff, and_self, ite_true, ite_false, zx1, zx2, zRecv, List.length_cons, List.length_nil, ne_eq, not_true_eq_false, not_false_eq_true, true_or, or_true, or_false, false_or, and_false, false_and, zf01, zf10, reduceCtorEq, zSw_c, zSw_n, zm_r, zit_T, zit_F, false_implies, true_implies]
    rw [ha.2.2.2, if_neg (by omega)]
    refine ⟨zI_s (by omega) (by omega), ⟨((zfc.rf.zm (by decide)).zm (by decide)), fun j a1 a2 a3 => ?_⟩, fun q => by omega, fun _ => rfl⟩
    rw [zm_j a2, zm_j a3]
  · rw [if_pos h.2.2.2.1]
    have hF : FM μ (zm μ 355 18 (μ 355 18 + 1)) := FM_zm (Or.inr (Or.inl rfl))
    have h1 : MSt Q o t (l + 1) (zm μ 355 18 (μ 355 18 + 1)) := by
      obtain ⟨h1, h2, h3, h4, h5, h6⟩ := h
      refine ⟨TKs_c h1 hF, ?_, ?_, ?_, ?_, h6⟩
      · rw [zm_j (by decide)]
        exact h2
      · rw [zm_s, h3]
        rfl
      · rw [zm_j (by decide)]
        exact h4
      · rw [zm_j (by decide)]
        exact h5
    obtain ⟨g1, g2⟩ := MSt_go hQ h1 hc
    rw [zm_j (by decide)] at g1 g2
    exact ⟨zI_s (by omega) (by omega), zI_s (by omega) (by omega), hF.tr g2, fun _ => g1, fun q => by omega⟩
theorem q_M_mustNumber {a b : Int} (hd : 4 ≤ d) (hQ : okK Q) (h : MSt Q o t l μ) : zSp d 0 0 y_M_mustNumber zT0 [vr 355, vi a, vi b] μ zT0 (fun r μ' => r = none ∧ FM μ μ' ∧ (Q.1 t = 50 ∧ a ≤ Q.2.1 t ∧ Q.2.1 t ≤ b → MSt Q o (t + 1) l μ') ∧ (¬ (Q.1 t = 50 ∧ a ≤ Q.2.1 t ∧ Q.2.1 t ≤ b) → μ' 355 19 = Q.2.2.1 t)) := by
  refine zSp.ss [vr 355, vi a, vi b] rfl (w_M_mustNumber (Nat.le_trans (by decide) hd)) rfl rfl ?_
  (try simp only [zit_e, Bool.and_eq_true, Bool.or_eq_true, Bool.not_eq_true', Bool.and_eq_false_iff, Bool.or_eq_false_iff, Bool.not_eq_false', zbe, zdt, zdf, zb2_p, zbp_0, zbp_1, zbp_inj, zbp_01, Bool.true_eq_false, Bool.false_eq_true, true_and, and_true, Decidable.not_not, Classical.not_not, implies_true, List.nil_append, List.cons_append, List.append_assoc, Option.some.injEq, Sum.inl.injEq, zSw_c, zSw_n]); (try simp only [zit_e, Bool.and_eq_true, Bool.or_eq_true, Bool.not_eq_true', Bool.and_eq_false_iff, Bool.or_eq_false_iff, Bool.not_eq_false', zbe, zdt, zdf, zb2_p, zbp_0, zbp_1, zbp_inj, zbp_01, Bool.true_eq_false, Bool.false_eq_true, true_and, and_true, Decidable.not_not, Classical.not_not, implies_true, List.nil_append, List.cons_append, List.append_assoc, Option.some.injEq, Sum.inl.injEq, zSw_c, zSw_n, zc_355, f_M_fine, g_M_fine, f_M_lies, g_M_lies]); (try simp only [zi_cs, zi_c0, zii_cs, zii_c0, zl_cs, zl_c0, zll_cs, zll_c0, zr_cs, zr_c0, zrr_cs, zrr_c0, zxs_cs, zxs_c0, zxx_cs, zxx_c0, zfree_c0, zfree_c1, zfree_cs, zfree_cz, zlong_i, zlong_r, zlong_x, zset_0, zset_s, true_and, and_true, Option.some.injEq, Sum.inl.injEq, Sum.inr.injEq, zb2_p, zbp_0, zbp_1, zbp_inj, zbp_01, Nat.zero_add, Nat.reduceAdd, implies_true, List.nil_append, List.cons_append, List.append_assoc, Int.not_lt, Int.not_le, Decidable.not_not, Int.zero_add, Int.reduceLE, Int.reduceLT, Int.reduceEq, Int.reduceNe, Int.reduceAdd, Int.reduceSub, Int.reduceMul, Int.reduceNeg, Int.reduceToNat, Nat.reduceMul, Nat.reduceLT, Nat.reduceEqDiff, and_self, ite_true, ite_false, zx1, zx2, zRecv, List.length_cons, List.length_nil, ne_eq, not_true_eq_false, not_false_eq_true, true_or, or_true, or_false, false_or, and_false, false_and, zf01, zf10, reduceCtorEq, zSw_c, zSw_n, zm_r, zit_T, zit_F, false_implies, true_implies, zc_355, f_M_fine, g_M_fine, f_M_lies, g_M_lies])
  have ha := MSt_at hQ h
  have hp := hQ.2.2.2 t
  rw [ha.2.1, ha.2.2.1]
  refine ⟨fun _ => by omega, ?_⟩
  refine zif (fun c => ?_) (fun c => ?_)
  · refine fa_w (by omega) hQ h (fun μ' a1 a2 => ⟨rfl, ?_⟩)
    rw [if_neg (by omega)]
    exact ⟨a2, fun q => by omega, fun _ => a1⟩
  · rw [if_pos h.2.2.2.1]
    have c5 : Q.1 t = 50 ∧ a ≤ Q.2.1 t ∧ Q.2.1 t ≤ b := by
      have := h.2.2.2.1
      omega
    obtain ⟨g1, g2⟩ := MSt_go hQ h (by rw [c5.1]; decide)
    exact ⟨by ((try simp only [zI_e]); (first | done | omega | skip)), g2, fun _ => g1, fun q => absurd c5 q⟩
theorem q_M_mustNumber_n {a b : Int} (hd : 4 ≤ d) (h : ¬ μ 355 19 = -1) : zSp d 0 0 y_M_mustNumber zT0 [vr 355, vi a, vi b] μ zT0 (fun r μ' => r = none ∧ μ' = μ) := by
  refine zSp.ss [vr 355, vi a, vi b] rfl (w_M_mustNumber (Nat.le_trans (by decide) hd)) rfl rfl ?_
  (try simp only [zit_e, Bool.and_eq_true, Bool.or_eq_true, Bool.not_eq_true', Bool.and_eq_false_iff, Bool.or_eq_false_iff, Bool.not_eq_false', zbe, zdt, zdf, zb2_p, zbp_0, zbp_1, zbp_inj, zbp_01, Bool.true_eq_false, Bool.false_eq_true, true_and, and_true, Decidable.not_not, Classical.not_not, implies_true, List.nil_append, List.cons_append, List.append_assoc, Option.some.injEq, Sum.inl.injEq, zSw_c, zSw_n]); (try simp only [zit_e, Bool.and_eq_true, Bool.or_eq_true, Bool.not_eq_true', Bool.and_eq_false_iff, Bool.or_eq_false_iff, Bool.not_eq_false', zbe, zdt, zdf, zb2_p, zbp_0, zbp_1, zbp_inj, zbp_01, Bool.true_eq_false, Bool.false_eq_true, true_and, and_true, Decidable.not_not, Classical.not_not, implies_true, List.nil_append, List.cons_append, List.append_assoc, Option.some.injEq, Sum.inl.injEq, zSw_c, zSw_n, zc_355, f_M_fine, g_M_fine, f_M_lies, g_M_lies]); (try simp only [zi_cs, zi_c0, zii_cs, zii_c0, zl_cs, zl_c0, zll_cs, zll_c0, zr_cs, zr_c0, zrr_cs, zrr_c0, zxs_cs, zxs_c0, zxx_cs, zxx_c0, zfree_c0, zfree_c1, zfree_cs, zfree_cz, zlong_i, zlong_r, zlong_x, zset_0, zset_s, true_and, and_true, Option.some.injEq, Sum.inl.injEq, Sum.inr.injEq, zb2_p, zbp_0, zbp_1, zbp_inj, zbp_01, Nat.zero_add, Nat.reduceAdd, implies_true, List.nil_append, List.cons_append, List.append_assoc, Int.not_lt, Int.not_le, Decidable.not_not, Int.zero_add, Int.reduceLE, Int.reduceLT, Int.reduceEq, Int.reduceNe, Int.reduceAdd, Int.reduceSub, Int.reduceMul, Int.reduceNeg, Int.reduceToNat, Nat.reduceMul, Nat.reduceLT, Nat.reduceEqDiff, and_self, ite_true, ite_false, zx1, zx2, zRecv, List.length_cons, List.length_nil, ne_eq, not_true_eq_false, not_false_eq_true, true_or, or_true, or_false, false_or, and_false, false_and, zf01, zf10, reduceCtorEq, zSw_c, zSw_n, zm_r, zit_T, zit_F, false_implies, true_implies, zc_355, f_M_fine, g_M_fine, f_M_lies, g_M_lies])
  refine ⟨fun q => absurd q h, ?_⟩
  rw [if_neg (fun q => h q.1), if_neg h]
  trivial
end ZMP

