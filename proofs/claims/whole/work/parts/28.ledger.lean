/-! what a ledger's deeds do to its debts -/
/-- other cells are the same -/
def zfc (cs : List Nat) (μ μ' : zMem) : Prop := ∀ k, k ∉ cs → μ' k = μ k
theorem zfc.rf {cs : List Nat} {μ : zMem} : zfc cs μ μ := fun _ _ => rfl
theorem zfc.tr {a b : List Nat} {μ1 μ2 μ3 : zMem} (h1 : zfc a μ1 μ2) (h2 : zfc b μ2 μ3) : zfc (a ++ b) μ1 μ3 := fun k hk => by
  rw [List.mem_append] at hk
  rw [h2 k (fun h => hk (Or.inr h)), h1 k (fun h => hk (Or.inl h))]
theorem zfc.mo {a b : List Nat} {μ1 μ2 : zMem} (h : zfc a μ1 μ2) (hs : ∀ k, k ∈ a → k ∈ b) : zfc b μ1 μ2 := fun k hk => h k (fun e => hk (hs k e))
theorem zfc.zm {cs : List Nat} {μ1 μ2 : zMem} {q : Nat} {j v : Int} (h : zfc cs μ1 μ2) (hq : q ∈ cs) : zfc cs μ1 (zm μ2 q j v) := fun k hk => by
  rw [zm_off k (fun e => hk (e ▸ hq)), h k hk]
theorem dbD_eq {μ : zMem} {n : Int} {f : Int → D4} (h1 : μ 2 5 = n) (h2 : ∀ i : Int, 0 ≤ i → i < n → fD μ i = f i) : dbD μ = tL n.toNat f := by
  unfold dbD
  rw [h1]
  exact tL_congr (fun i h0 h => h2 i h0 (by omega))
theorem dbM_eq {μ : zMem} {n : Int} {f : Int → D4} (h1 : μ 357 71 = n) (h2 : ∀ i : Int, 0 ≤ i → i < n → fM μ i = f i) : dbM μ = tL n.toNat f := by
  unfold dbM
  rw [h1]
  exact tL_congr (fun i h0 h => h2 i h0 (by omega))
theorem tL_app {α : Type} {n : Int} {f : Int → α} (h : 0 ≤ n) : tL (n + 1).toNat f = tL n.toNat f ++ [f n] := by
  rw [show (n + 1).toNat = n.toNat + 1 by omega, tL_succ, show ((n.toNat : Nat) : Int) = n by omega]
theorem dbM_c {μ μ' : zMem} (hn : μ 357 71 ≤ 16) (h : ∀ j : Int, 7 ≤ j → j ≤ 71 → μ' 357 j = μ 357 j) : dbM μ' = dbM μ := (dbM_eq (n := μ 357 71) (f := fM μ) (h 71 (by omega) (by omega)) (fun i h0 h1 => by
  show (μ' 357 (7 + 4 * i), μ' 357 (7 + 4 * i + 1), μ' 357 (7 + 4 * i + 2), μ' 357 (7 + 4 * i + 3)) = (μ 357 (7 + 4 * i), μ 357 (7 + 4 * i + 1), μ 357 (7 + 4 * i + 2), μ 357 (7 + 4 * i + 3))
  rw [h _ (by omega) (by omega), h _ (by omega) (by omega), h _ (by omega) (by omega), h _ (by omega) (by omega)])).trans rfl
theorem nk_1_4 : zNk 1 4 = none := rfl
theorem fl_Le_37 : zFl "DebtDoors$Ledger" 37 1 6 := ⟨_, rfl, by decide, (zTb_in 205 (by decide +kernel) (by decide +kernel)), rfl⟩
theorem fp_1_5 : zFp 1 5 0 := ⟨_, rfl, rfl, rfl, by decide⟩
def y_Le_add : zMt := (⟨"DebtDoors$Ledger", "add", "(III)V"⟩, prog_3_method_6_code, 4, none)
theorem d_Le_add_0 : decode prog_3_method_6_code 0 = .ok (.aload_n 0, 1) := by decide +kernel
theorem d_Le_add_1 : decode prog_3_method_6_code 1 = .ok (.getfield 33, 3) := by decide +kernel
theorem d_Le_add_4 : decode prog_3_method_6_code 4 = .ok (.bipush 16, 2) := by decide +kernel
theorem d_Le_add_6 : decode prog_3_method_6_code 6 = .ok (.if_icmp .lt 4, 3) := by decide +kernel
theorem d_Le_add_9 : decode prog_3_method_6_code 9 = .ok (.return_, 1) := by decide +kernel
theorem d_Le_add_10 : decode prog_3_method_6_code 10 = .ok (.aload_n 0, 1) := by decide +kernel
theorem d_Le_add_11 : decode prog_3_method_6_code 11 = .ok (.getfield 15, 3) := by decide +kernel
theorem d_Le_add_14 : decode prog_3_method_6_code 14 = .ok (.aload_n 0, 1) := by decide +kernel
theorem d_Le_add_15 : decode prog_3_method_6_code 15 = .ok (.getfield 33, 3) := by decide +kernel
theorem d_Le_add_18 : decode prog_3_method_6_code 18 = .ok (.iload_n 1, 1) := by decide +kernel
theorem d_Le_add_19 : decode prog_3_method_6_code 19 = .ok (.iastore, 1) := by decide +kernel
theorem d_Le_add_20 : decode prog_3_method_6_code 20 = .ok (.aload_n 0, 1) := by decide +kernel
theorem d_Le_add_21 : decode prog_3_method_6_code 21 = .ok (.getfield 18, 3) := by decide +kernel
theorem d_Le_add_24 : decode prog_3_method_6_code 24 = .ok (.aload_n 0, 1) := by decide +kernel
theorem d_Le_add_25 : decode prog_3_method_6_code 25 = .ok (.getfield 33, 3) := by decide +kernel
theorem d_Le_add_28 : decode prog_3_method_6_code 28 = .ok (.iload_n 2, 1) := by decide +kernel
theorem d_Le_add_29 : decode prog_3_method_6_code 29 = .ok (.iastore, 1) := by decide +kernel
theorem d_Le_add_30 : decode prog_3_method_6_code 30 = .ok (.aload_n 0, 1) := by decide +kernel
theorem d_Le_add_31 : decode prog_3_method_6_code 31 = .ok (.getfield 21, 3) := by decide +kernel
theorem d_Le_add_34 : decode prog_3_method_6_code 34 = .ok (.aload_n 0, 1) := by decide +kernel
theorem d_Le_add_35 : decode prog_3_method_6_code 35 = .ok (.getfield 33, 3) := by decide +kernel
theorem d_Le_add_38 : decode prog_3_method_6_code 38 = .ok (.iload_n 3, 1) := by decide +kernel
theorem d_Le_add_39 : decode prog_3_method_6_code 39 = .ok (.iastore, 1) := by decide +kernel
theorem d_Le_add_40 : decode prog_3_method_6_code 40 = .ok (.aload_n 0, 1) := by decide +kernel
theorem d_Le_add_41 : decode prog_3_method_6_code 41 = .ok (.getfield 24, 3) := by decide +kernel
theorem d_Le_add_44 : decode prog_3_method_6_code 44 = .ok (.aload_n 0, 1) := by decide +kernel
theorem d_Le_add_45 : decode prog_3_method_6_code 45 = .ok (.getfield 33, 3) := by decide +kernel
theorem d_Le_add_48 : decode prog_3_method_6_code 48 = .ok (.aload_n 0, 1) := by decide +kernel
theorem d_Le_add_49 : decode prog_3_method_6_code 49 = .ok (.getfield 37, 3) := by decide +kernel
theorem d_Le_add_52 : decode prog_3_method_6_code 52 = .ok (.iastore, 1) := by decide +kernel
theorem d_Le_add_53 : decode prog_3_method_6_code 53 = .ok (.aload_n 0, 1) := by decide +kernel
theorem d_Le_add_54 : decode prog_3_method_6_code 54 = .ok (.dup, 1) := by decide +kernel
theorem d_Le_add_55 : decode prog_3_method_6_code 55 = .ok (.getfield 33, 3) := by decide +kernel
theorem d_Le_add_58 : decode prog_3_method_6_code 58 = .ok (.iconst 1, 1) := by decide +kernel
theorem d_Le_add_59 : decode prog_3_method_6_code 59 = .ok (.iadd, 1) := by decide +kernel
theorem d_Le_add_60 : decode prog_3_method_6_code 60 = .ok (.putfield 33, 3) := by decide +kernel
theorem d_Le_add_63 : decode prog_3_method_6_code 63 = .ok (.return_, 1) := by decide +kernel
def w_Le_add {d : Nat} (hd : 1 ≤ d) := (show SS ("DebtDoors$Ledger", prog_3_method_6_code, 4) (none) d 0 0 0 0 _ from (sS (p1 := 10) (sIf (pn := 10) (tt := 9) (xC (rNot (rJ2 (tgt := 10) j_lt (rF 5 fl_Le_33 nk_1_5 (rAn 0 d_Le_add_0 rfl) d_Le_add_1 rfl) (rB d_Le_add_4 rfl) d_Le_add_6 (by decide)))) (sRv d_Le_add_9 rfl)) (sS (p1 := 20) (sAs (rFr fl_Le_15 nk_1_1 (rAn 0 d_Le_add_10 rfl) d_Le_add_11) (rF 5 fl_Le_33 nk_1_5 (rAn 0 d_Le_add_14 rfl) d_Le_add_15 rfl) (xE (rIn 1 d_Le_add_18 rfl)) d_Le_add_19) (sS (p1 := 30) (sAs (rFr fl_Le_18 nk_1_2 (rAn 0 d_Le_add_20 rfl) d_Le_add_21) (rF 5 fl_Le_33 nk_1_5 (rAn 0 d_Le_add_24 rfl) d_Le_add_25 rfl) (xE (rIn 2 d_Le_add_28 rfl)) d_Le_add_29) (sS (p1 := 40) (sAs (rFr fl_Le_21 nk_1_3 (rAn 0 d_Le_add_30 rfl) d_Le_add_31) (rF 5 fl_Le_33 nk_1_5 (rAn 0 d_Le_add_34 rfl) d_Le_add_35 rfl) (xE (rIn 3 d_Le_add_38 rfl)) d_Le_add_39) (sS (p1 := 53) (sAs (rFr fl_Le_24 nk_1_4 (rAn 0 d_Le_add_40 rfl) d_Le_add_41) (rF 5 fl_Le_33 nk_1_5 (rAn 0 d_Le_add_44 rfl) d_Le_add_45 rfl) (xE (rF 6 fl_Le_37 nk_1_6 (rAn 0 d_Le_add_48 rfl) d_Le_add_49 rfl)) d_Le_add_52) (sS (p1 := 63) (sPo 5 o_add fl_Le_33 fp_1_5 nk_1_5 (rAn 0 d_Le_add_53 rfl) d_Le_add_54 d_Le_add_55 (rI d_Le_add_58 rfl) d_Le_add_59 d_Le_add_60 rfl) (sRv d_Le_add_63 rfl))))))))
def y_Le_pay : zMt := (⟨"DebtDoors$Ledger", "pay", "(III)V"⟩, prog_3_method_10_code, 4, none)
theorem d_Le_pay_0 : decode prog_3_method_10_code 0 = .ok (.aload_n 0, 1) := by decide +kernel
theorem d_Le_pay_1 : decode prog_3_method_10_code 1 = .ok (.getfield 9, 3) := by decide +kernel
theorem d_Le_pay_4 : decode prog_3_method_10_code 4 = .ok (.iload_n 1, 1) := by decide +kernel
theorem d_Le_pay_5 : decode prog_3_method_10_code 5 = .ok (.dup2, 1) := by decide +kernel
theorem d_Le_pay_6 : decode prog_3_method_10_code 6 = .ok (.iaload, 1) := by decide +kernel
theorem d_Le_pay_7 : decode prog_3_method_10_code 7 = .ok (.iload_n 3, 1) := by decide +kernel
theorem d_Le_pay_8 : decode prog_3_method_10_code 8 = .ok (.isub, 1) := by decide +kernel
theorem d_Le_pay_9 : decode prog_3_method_10_code 9 = .ok (.iastore, 1) := by decide +kernel
theorem d_Le_pay_10 : decode prog_3_method_10_code 10 = .ok (.aload_n 0, 1) := by decide +kernel
theorem d_Le_pay_11 : decode prog_3_method_10_code 11 = .ok (.getfield 9, 3) := by decide +kernel
theorem d_Le_pay_14 : decode prog_3_method_10_code 14 = .ok (.iload_n 2, 1) := by decide +kernel
theorem d_Le_pay_15 : decode prog_3_method_10_code 15 = .ok (.dup2, 1) := by decide +kernel
theorem d_Le_pay_16 : decode prog_3_method_10_code 16 = .ok (.iaload, 1) := by decide +kernel
theorem d_Le_pay_17 : decode prog_3_method_10_code 17 = .ok (.iload_n 3, 1) := by decide +kernel
theorem d_Le_pay_18 : decode prog_3_method_10_code 18 = .ok (.iadd, 1) := by decide +kernel
theorem d_Le_pay_19 : decode prog_3_method_10_code 19 = .ok (.iastore, 1) := by decide +kernel
theorem d_Le_pay_20 : decode prog_3_method_10_code 20 = .ok (.return_, 1) := by decide +kernel
def w_Le_pay {d : Nat} (hd : 1 ≤ d) := (show SS ("DebtDoors$Ledger", prog_3_method_10_code, 4) (none) d 0 0 0 0 _ from (sS (p1 := 10) (sAo o_sub (rFr fl_Le_9 nk_1_0 (rAn 0 d_Le_pay_0 rfl) d_Le_pay_1) (rIn 1 d_Le_pay_4 rfl) d_Le_pay_5 d_Le_pay_6 (rIn 3 d_Le_pay_7 rfl) d_Le_pay_8 d_Le_pay_9) (sS (p1 := 20) (sAo o_add (rFr fl_Le_9 nk_1_0 (rAn 0 d_Le_pay_10 rfl) d_Le_pay_11) (rIn 2 d_Le_pay_14 rfl) d_Le_pay_15 d_Le_pay_16 (rIn 3 d_Le_pay_17 rfl) d_Le_pay_18 d_Le_pay_19) (sRv d_Le_pay_20 rfl))))
def y_M_adds : zMt := (⟨"DebtDoorsModel", "adds", "(III)V"⟩, prog_14_method_24_code, 5, none)
theorem d_M_adds_0 : decode prog_14_method_24_code 0 = .ok (.bipush 7, 2) := by decide +kernel
theorem d_M_adds_2 : decode prog_14_method_24_code 2 = .ok (.iconst 4, 1) := by decide +kernel
theorem d_M_adds_3 : decode prog_14_method_24_code 3 = .ok (.aload_n 0, 1) := by decide +kernel
theorem d_M_adds_4 : decode prog_14_method_24_code 4 = .ok (.invokevirtual 137, 3) := by decide +kernel
theorem d_M_adds_7 : decode prog_14_method_24_code 7 = .ok (.imul, 1) := by decide +kernel
theorem d_M_adds_8 : decode prog_14_method_24_code 8 = .ok (.iadd, 1) := by decide +kernel
theorem d_M_adds_9 : decode prog_14_method_24_code 9 = .ok (.istore 4, 2) := by decide +kernel
theorem d_M_adds_11 : decode prog_14_method_24_code 11 = .ok (.aload_n 0, 1) := by decide +kernel
theorem d_M_adds_12 : decode prog_14_method_24_code 12 = .ok (.getfield 24, 3) := by decide +kernel
theorem d_M_adds_15 : decode prog_14_method_24_code 15 = .ok (.iload 4, 2) := by decide +kernel
theorem d_M_adds_17 : decode prog_14_method_24_code 17 = .ok (.iload_n 1, 1) := by decide +kernel
theorem d_M_adds_18 : decode prog_14_method_24_code 18 = .ok (.iastore, 1) := by decide +kernel
theorem d_M_adds_19 : decode prog_14_method_24_code 19 = .ok (.aload_n 0, 1) := by decide +kernel
theorem d_M_adds_20 : decode prog_14_method_24_code 20 = .ok (.getfield 24, 3) := by decide +kernel
theorem d_M_adds_23 : decode prog_14_method_24_code 23 = .ok (.iload 4, 2) := by decide +kernel
theorem d_M_adds_25 : decode prog_14_method_24_code 25 = .ok (.iconst 1, 1) := by decide +kernel
theorem d_M_adds_26 : decode prog_14_method_24_code 26 = .ok (.iadd, 1) := by decide +kernel
theorem d_M_adds_27 : decode prog_14_method_24_code 27 = .ok (.iload_n 2, 1) := by decide +kernel
theorem d_M_adds_28 : decode prog_14_method_24_code 28 = .ok (.iastore, 1) := by decide +kernel
theorem d_M_adds_29 : decode prog_14_method_24_code 29 = .ok (.aload_n 0, 1) := by decide +kernel
theorem d_M_adds_30 : decode prog_14_method_24_code 30 = .ok (.getfield 24, 3) := by decide +kernel
theorem d_M_adds_33 : decode prog_14_method_24_code 33 = .ok (.iload 4, 2) := by decide +kernel
theorem d_M_adds_35 : decode prog_14_method_24_code 35 = .ok (.iconst 2, 1) := by decide +kernel
theorem d_M_adds_36 : decode prog_14_method_24_code 36 = .ok (.iadd, 1) := by decide +kernel
theorem d_M_adds_37 : decode prog_14_method_24_code 37 = .ok (.iload_n 3, 1) := by decide +kernel
theorem d_M_adds_38 : decode prog_14_method_24_code 38 = .ok (.iastore, 1) := by decide +kernel
theorem d_M_adds_39 : decode prog_14_method_24_code 39 = .ok (.aload_n 0, 1) := by decide +kernel
theorem d_M_adds_40 : decode prog_14_method_24_code 40 = .ok (.getfield 24, 3) := by decide +kernel
theorem d_M_adds_43 : decode prog_14_method_24_code 43 = .ok (.iload 4, 2) := by decide +kernel
theorem d_M_adds_45 : decode prog_14_method_24_code 45 = .ok (.iconst 3, 1) := by decide +kernel
theorem d_M_adds_46 : decode prog_14_method_24_code 46 = .ok (.iadd, 1) := by decide +kernel
theorem d_M_adds_47 : decode prog_14_method_24_code 47 = .ok (.aload_n 0, 1) := by decide +kernel
theorem d_M_adds_48 : decode prog_14_method_24_code 48 = .ok (.getfield 24, 3) := by decide +kernel
theorem d_M_adds_51 : decode prog_14_method_24_code 51 = .ok (.bipush 72, 2) := by decide +kernel
theorem d_M_adds_53 : decode prog_14_method_24_code 53 = .ok (.iaload, 1) := by decide +kernel
theorem d_M_adds_54 : decode prog_14_method_24_code 54 = .ok (.iastore, 1) := by decide +kernel
theorem d_M_adds_55 : decode prog_14_method_24_code 55 = .ok (.aload_n 0, 1) := by decide +kernel
theorem d_M_adds_56 : decode prog_14_method_24_code 56 = .ok (.getfield 24, 3) := by decide +kernel
theorem d_M_adds_59 : decode prog_14_method_24_code 59 = .ok (.bipush 71, 2) := by decide +kernel
theorem d_M_adds_61 : decode prog_14_method_24_code 61 = .ok (.dup2, 1) := by decide +kernel
theorem d_M_adds_62 : decode prog_14_method_24_code 62 = .ok (.iaload, 1) := by decide +kernel
theorem d_M_adds_63 : decode prog_14_method_24_code 63 = .ok (.iconst 1, 1) := by decide +kernel
theorem d_M_adds_64 : decode prog_14_method_24_code 64 = .ok (.iadd, 1) := by decide +kernel
theorem d_M_adds_65 : decode prog_14_method_24_code 65 = .ok (.iastore, 1) := by decide +kernel
theorem d_M_adds_66 : decode prog_14_method_24_code 66 = .ok (.return_, 1) := by decide +kernel
def w_M_adds {d : Nat} (hd : 2 ≤ d) := (show SS ("DebtDoorsModel", prog_14_method_24_code, 5) (none) d 0 0 0 0 _ from (sS (p1 := 11) (sI (xE (r2 o_add (rB d_M_adds_0 rfl) (r2 o_mul (rI d_M_adds_2 rfl) (rV p_M_debts (Nat.le_trans (Nat.le_of_ble_eq_true rfl) hd) lv_M_137 (rAr rA0 (rAn 0 d_M_adds_3 rfl)) (by decide) d_M_adds_4) d_M_adds_7) d_M_adds_8)) d_M_adds_9 (by decide)) (sS (p1 := 19) (sAs (rFr fl_M_24 nk_12_2 (rAn 0 d_M_adds_11 rfl) d_M_adds_12) (rIl d_M_adds_15) (xE (rIn 1 d_M_adds_17 rfl)) d_M_adds_18) (sS (p1 := 29) (sAs (rFr fl_M_24 nk_12_2 (rAn 0 d_M_adds_19 rfl) d_M_adds_20) (r2 o_add (rIl d_M_adds_23) (rI d_M_adds_25 rfl) d_M_adds_26) (xE (rIn 2 d_M_adds_27 rfl)) d_M_adds_28) (sS (p1 := 39) (sAs (rFr fl_M_24 nk_12_2 (rAn 0 d_M_adds_29 rfl) d_M_adds_30) (r2 o_add (rIl d_M_adds_33) (rI d_M_adds_35 rfl) d_M_adds_36) (xE (rIn 3 d_M_adds_37 rfl)) d_M_adds_38) (sS (p1 := 55) (sAs (rFr fl_M_24 nk_12_2 (rAn 0 d_M_adds_39 rfl) d_M_adds_40) (r2 o_add (rIl d_M_adds_43) (rI d_M_adds_45 rfl) d_M_adds_46) (xE (rIa (rFr fl_M_24 nk_12_2 (rAn 0 d_M_adds_47 rfl) d_M_adds_48) (rB d_M_adds_51 rfl) d_M_adds_53)) d_M_adds_54) (sS (p1 := 66) (sAo o_add (rFr fl_M_24 nk_12_2 (rAn 0 d_M_adds_55 rfl) d_M_adds_56) (rB d_M_adds_59 rfl) d_M_adds_61 d_M_adds_62 (rI d_M_adds_63 rfl) d_M_adds_64 d_M_adds_65) (sRv d_M_adds_66 rfl))))))))
theorem m_M_adds : Cond.instanceMethod y_M_adds.1 ∈ zTb ∧ Cond.selects y_M_adds.1.cls y_M_adds.1 y_M_adds.1 ∈ zTb ∧ Cond.initialized y_M_adds.1.cls ∈ zTb ∧ Cond.code y_M_adds.1 y_M_adds.2.1 y_M_adds.2.2.1 y_M_adds.2.2.2 ∈ zTb ∧ (y_M_adds.1.cls ≠ "java/lang/invoke/MethodHandle" ∧ y_M_adds.1.cls ≠ "java/lang/invoke/VarHandle" ∧ (parseMethodDescriptor y_M_adds.1.desc).map (fun d => d.parameters.length) = some 3) ∧ y_M_adds.2.2.1 ≤ 20 :=
  ⟨(zTb_in 1580 (by decide +kernel) (by decide +kernel)), (List.mem_filter.mpr ⟨List.mem_append_left _ (by decide +kernel), by decide +kernel⟩), (zTb_in 151 (by decide +kernel) (by decide +kernel)), (zTb_in 1581 (by decide +kernel) (by decide +kernel)), by decide +kernel, by decide +kernel⟩
theorem lv_M_162 : zLv "DebtDoorsModel" 162 y_M_adds 3 12 := ⟨⟨(zTb_in 1578 (by decide +kernel) (by decide +kernel)), m_M_adds.1, m_M_adds.2.1, m_M_adds.2.2⟩, _, rfl, rfl⟩
def y_M_lends : zMt := (⟨"DebtDoorsModel", "lends", "(III)V"⟩, prog_14_method_87_code, 4, none)
theorem d_M_lends_0 : decode prog_14_method_87_code 0 = .ok (.aload_n 0, 1) := by decide +kernel
theorem d_M_lends_1 : decode prog_14_method_87_code 1 = .ok (.getfield 24, 3) := by decide +kernel
theorem d_M_lends_4 : decode prog_14_method_87_code 4 = .ok (.iconst 0, 1) := by decide +kernel
theorem d_M_lends_5 : decode prog_14_method_87_code 5 = .ok (.iload_n 1, 1) := by decide +kernel
theorem d_M_lends_6 : decode prog_14_method_87_code 6 = .ok (.iadd, 1) := by decide +kernel
theorem d_M_lends_7 : decode prog_14_method_87_code 7 = .ok (.dup2, 1) := by decide +kernel
theorem d_M_lends_8 : decode prog_14_method_87_code 8 = .ok (.iaload, 1) := by decide +kernel
theorem d_M_lends_9 : decode prog_14_method_87_code 9 = .ok (.iload_n 3, 1) := by decide +kernel
theorem d_M_lends_10 : decode prog_14_method_87_code 10 = .ok (.isub, 1) := by decide +kernel
theorem d_M_lends_11 : decode prog_14_method_87_code 11 = .ok (.iastore, 1) := by decide +kernel
theorem d_M_lends_12 : decode prog_14_method_87_code 12 = .ok (.aload_n 0, 1) := by decide +kernel
theorem d_M_lends_13 : decode prog_14_method_87_code 13 = .ok (.getfield 24, 3) := by decide +kernel
theorem d_M_lends_16 : decode prog_14_method_87_code 16 = .ok (.iconst 0, 1) := by decide +kernel
theorem d_M_lends_17 : decode prog_14_method_87_code 17 = .ok (.iload_n 2, 1) := by decide +kernel
theorem d_M_lends_18 : decode prog_14_method_87_code 18 = .ok (.iadd, 1) := by decide +kernel
theorem d_M_lends_19 : decode prog_14_method_87_code 19 = .ok (.dup2, 1) := by decide +kernel
theorem d_M_lends_20 : decode prog_14_method_87_code 20 = .ok (.iaload, 1) := by decide +kernel
theorem d_M_lends_21 : decode prog_14_method_87_code 21 = .ok (.iload_n 3, 1) := by decide +kernel
theorem d_M_lends_22 : decode prog_14_method_87_code 22 = .ok (.iadd, 1) := by decide +kernel
theorem d_M_lends_23 : decode prog_14_method_87_code 23 = .ok (.iastore, 1) := by decide +kernel
theorem d_M_lends_24 : decode prog_14_method_87_code 24 = .ok (.aload_n 0, 1) := by decide +kernel
theorem d_M_lends_25 : decode prog_14_method_87_code 25 = .ok (.iload_n 2, 1) := by decide +kernel
theorem d_M_lends_26 : decode prog_14_method_87_code 26 = .ok (.iload_n 1, 1) := by decide +kernel
theorem d_M_lends_27 : decode prog_14_method_87_code 27 = .ok (.iload_n 3, 1) := by decide +kernel
theorem d_M_lends_28 : decode prog_14_method_87_code 28 = .ok (.invokevirtual 162, 3) := by decide +kernel
theorem d_M_lends_31 : decode prog_14_method_87_code 31 = .ok (.return_, 1) := by decide +kernel
def w_M_lends {d : Nat} (hd : 1 ≤ d) := (show SS ("DebtDoorsModel", prog_14_method_87_code, 4) (none) d 0 0 0 0 _ from (sS (p1 := 12) (sAo o_sub (rFr fl_M_24 nk_12_2 (rAn 0 d_M_lends_0 rfl) d_M_lends_1) (r2 o_add (rI d_M_lends_4 rfl) (rIn 1 d_M_lends_5 rfl) d_M_lends_6) d_M_lends_7 d_M_lends_8 (rIn 3 d_M_lends_9 rfl) d_M_lends_10 d_M_lends_11) (sS (p1 := 24) (sAo o_add (rFr fl_M_24 nk_12_2 (rAn 0 d_M_lends_12 rfl) d_M_lends_13) (r2 o_add (rI d_M_lends_16 rfl) (rIn 2 d_M_lends_17 rfl) d_M_lends_18) d_M_lends_19 d_M_lends_20 (rIn 3 d_M_lends_21 rfl) d_M_lends_22 d_M_lends_23) (sS (p1 := 31) (sV (xVv lv_M_162 (xA (rAi (rAi (rAi (rAr rA0 (rAn 0 d_M_lends_24 rfl)) (rIn 2 d_M_lends_25 rfl)) (rIn 1 d_M_lends_26 rfl)) (rIn 3 d_M_lends_27 rfl))) (by decide) d_M_lends_28)) (sRv d_M_lends_31 rfl)))))
theorem q_Le_add {d : Nat} (hd : 1 ≤ d) {μ : zMem} {a b m : Int} (h : 0 ≤ μ 2 5 ∧ μ 2 5 < 16) : zSp d 0 0 y_Le_add zT0 [vr 2, vi a, vi b, vi m] μ zT0 (fun r μ' => r = none ∧ μ' 2 5 = μ 2 5 + 1 ∧ μ' 2 6 = μ 2 6 ∧ dbD μ' = dbD μ ++ [(a, b, m, μ 2 6)] ∧ zfc [2, 4, 5, 6, 7] μ μ') := by
  refine zSp.ss [vr 2, vi a, vi b, vi m] rfl (w_Le_add hd) rfl rfl ?_
  (try simp only [zit_e, Bool.and_eq_true, Bool.or_eq_true, Bool.not_eq_true', Bool.and_eq_false_iff, Bool.or_eq_false_iff, Bool.not_eq_false', zbe, zdt, zdf, zb2_p, zbp_0, zbp_1, zbp_inj, zbp_01, Bool.true_eq_false, Bool.false_eq_true, true_and, and_true, Decidable.not_not, Classical.not_not, implies_true, List.nil_append, List.cons_append, List.append_assoc, Option.some.injEq, Sum.inl.injEq, zSw_c, zSw_n]); (try simp only [zit_e, Bool.and_eq_true, Bool.or_eq_true, Bool.not_eq_true', Bool.and_eq_false_iff, Bool.or_eq_false_iff, Bool.not_eq_false', zbe, zdt, zdf, zb2_p, zbp_0, zbp_1, zbp_inj, zbp_01, Bool.true_eq_false, Bool.false_eq_true, true_and, and_true, Decidable.not_not, Classical.not_not, implies_true, List.nil_append, List.cons_append, List.append_assoc, Option.some.injEq, Sum.inl.injEq, zSw_c, zSw_n, zc_2]); (try simp only [zi_cs, zi_c0, zii_cs, zii_c0, zl_cs, zl_c0, zll_cs, zll_c0, zr_cs, zr_c0, zrr_cs, zrr_c0, zxs_cs, zxs_c0, zxx_cs, zxx_c0, zfree_c0, zfree_c1, zfree_cs, zfree_cz, zlong_i, zlong_r, zlong_x, zset_0, zset_s, true_and, and_true, Option.some.injEq, Sum.inl.injEq, Sum.inr.injEq, zb2_p, zbp_0, zbp_1, zbp_inj, zbp_01, Nat.zero_add, Nat.reduceAdd, implies_true, List.nil_append, List.cons_append, List.append_assoc, Int.not_lt, Int.not_le, Decidable.not_not, Int.zero_add, Int.reduceLE, Int.reduceLT, Int.reduceEq, Int.reduceNe, Int.reduceAdd, Int.reduceSub, Int.reduceMul, Int.reduceNeg, Int.reduceToNat, Nat.reduceMul, Nat.reduceLT, Nat.reduceEqDiff, and_self, ite_true, ite_false, zx1, zx2, zRecv, List.length_cons, List.length_nil, ne_eq, not_true_eq_false, not_false_eq_true, true_or, or_true, or_false, false_or, and_false, false_and, zf01, zf10, reduceCtorEq, zSw_c, zSw_n, zm_r, zit_T, zit_F, false_implies, true_implies, zc_2])
  rw [if_neg (by omega)]
  refine ⟨by omega, by omega, by omega, by omega, by omega, by omega, by omega, by omega, by ((try simp only [zI_e]); (first | done | omega | skip)), ?_, ?_⟩
  · refine (dbD_eq (n := μ 2 5 + 1) (f := fun i => if i = μ 2 5 then (a, b, m, μ 2 6) else fD μ i) ?_ (fun i h0 h1 => ?_)).trans ?_
    · simp only [zm_r, zit_T]
    · unfold fD
      by_cases e : i = μ 2 5
      · simp [zm_r, zit, e]
      · simp [zm_r, zit, e]
    · rw [tL_app (by omega), if_pos rfl]
      congr 1
      exact tL_congr (fun i h0 h1 => if_neg (by omega))
  · (repeat (first | exact zfc.rf | refine zfc.zm ?_ (by decide)))
theorem q_Le_pay {d : Nat} (hd : 1 ≤ d) {μ : zMem} {a b m : Int} (ha : 0 ≤ a ∧ a < 7) (hb : 0 ≤ b ∧ b < 7) (hi : zI (μ 3 a - m) ∧ zI (zm μ 3 a (μ 3 a - m) 3 b + m)) : zSp d 0 0 y_Le_pay zT0 [vr 2, vi a, vi b, vi m] μ zT0 (fun r μ' => r = none ∧ μ' = zm (zm μ 3 a (μ 3 a - m)) 3 b (zm μ 3 a (μ 3 a - m) 3 b + m)) := by
  refine zSp.ss [vr 2, vi a, vi b, vi m] rfl (w_Le_pay hd) rfl rfl ?_
  rw [zm_r] at hi
  (try simp only [zit_e, Bool.and_eq_true, Bool.or_eq_true, Bool.not_eq_true', Bool.and_eq_false_iff, Bool.or_eq_false_iff, Bool.not_eq_false', zbe, zdt, zdf, zb2_p, zbp_0, zbp_1, zbp_inj, zbp_01, Bool.true_eq_false, Bool.false_eq_true, true_and, and_true, Decidable.not_not, Classical.not_not, implies_true, List.nil_append, List.cons_append, List.append_assoc, Option.some.injEq, Sum.inl.injEq, zSw_c, zSw_n]); (try simp only [zit_e, Bool.and_eq_true, Bool.or_eq_true, Bool.not_eq_true', Bool.and_eq_false_iff, Bool.or_eq_false_iff, Bool.not_eq_false', zbe, zdt, zdf, zb2_p, zbp_0, zbp_1, zbp_inj, zbp_01, Bool.true_eq_false, Bool.false_eq_true, true_and, and_true, Decidable.not_not, Classical.not_not, implies_true, List.nil_append, List.cons_append, List.append_assoc, Option.some.injEq, Sum.inl.injEq, zSw_c, zSw_n, zc_2]); (try simp only [zi_cs, zi_c0, zii_cs, zii_c0, zl_cs, zl_c0, zll_cs, zll_c0, zr_cs, zr_c0, zrr_cs, zrr_c0, zxs_cs, zxs_c0, zxx_cs, zxx_c0, zfree_c0, zfree_c1, zfree_cs, zfree_cz, zlong_i, zlong_r, zlong_x, zset_0, zset_s, true_and, and_true, Option.some.injEq, Sum.inl.injEq, Sum.inr.injEq, zb2_p, zbp_0, zbp_1, zbp_inj, zbp_01, Nat.zero_add, Nat.reduceAdd, implies_true, List.nil_append, List.cons_append, List.append_assoc, Int.not_lt, Int.not_le, Decidable.not_not, Int.zero_add, Int.reduceLE, Int.reduceLT, Int.reduceEq, Int.reduceNe, Int.reduceAdd, Int.reduceSub, Int.reduceMul, Int.reduceNeg, Int.reduceToNat, Nat.reduceMul, Nat.reduceLT, Nat.reduceEqDiff, and_self, ite_true, ite_false, zx1, zx2, zRecv, List.length_cons, List.length_nil, ne_eq, not_true_eq_false, not_false_eq_true, true_or, or_true, or_false, false_or, and_false, false_and, zf01, zf10, reduceCtorEq, zSw_c, zSw_n, zm_r, zit_T, zit_F, false_implies, true_implies, zc_2])
  simp only [zit_T] at hi
  exact ⟨ha.1, ha.2, hi.1, hb.1, hb.2, hi.2⟩
theorem q_M_adds {d : Nat} (hd : 2 ≤ d) {μ : zMem} {a b m : Int} (h : 0 ≤ μ 357 71 ∧ μ 357 71 < 16) : zSp d 0 0 y_M_adds zT0 [vr 355, vi a, vi b, vi m] μ zT0 (fun r μ' => r = none ∧ dbM μ' = dbM μ ++ [(a, b, m, μ 357 72)] ∧ μ' 357 71 = μ 357 71 + 1 ∧ (∀ j : Int, (j < 7 ∨ 72 ≤ j) → μ' 357 j = μ 357 j) ∧ zfc [357] μ μ') := by
  refine zSp.ss [vr 355, vi a, vi b, vi m, vx 0] rfl (w_M_adds hd) rfl rfl ?_
  (try simp only [zit_e, Bool.and_eq_true, Bool.or_eq_true, Bool.not_eq_true', Bool.and_eq_false_iff, Bool.or_eq_false_iff, Bool.not_eq_false', zbe, zdt, zdf, zb2_p, zbp_0, zbp_1, zbp_inj, zbp_01, Bool.true_eq_false, Bool.false_eq_true, true_and, and_true, Decidable.not_not, Classical.not_not, implies_true, List.nil_append, List.cons_append, List.append_assoc, Option.some.injEq, Sum.inl.injEq, zSw_c, zSw_n]); (try simp only [zit_e, Bool.and_eq_true, Bool.or_eq_true, Bool.not_eq_true', Bool.and_eq_false_iff, Bool.or_eq_false_iff, Bool.not_eq_false', zbe, zdt, zdf, zb2_p, zbp_0, zbp_1, zbp_inj, zbp_01, Bool.true_eq_false, Bool.false_eq_true, true_and, and_true, Decidable.not_not, Classical.not_not, implies_true, List.nil_append, List.cons_append, List.append_assoc, Option.some.injEq, Sum.inl.injEq, zSw_c, zSw_n, zc_355, f_M_debts, g_M_debts]); (try simp only [zi_cs, zi_c0, zii_cs, zii_c0, zl_cs, zl_c0, zll_cs, zll_c0, zr_cs, zr_c0, zrr_cs, zrr_c0, zxs_cs, zxs_c0, zxx_cs, zxx_c0, zfree_c0, zfree_c1, zfree_cs, zfree_cz, zlong_i, zlong_r, zlong_x, zset_0, zset_s, true_and, and_true, Option.some.injEq, Sum.inl.injEq, Sum.inr.injEq, zb2_p, zbp_0, zbp_1, zbp_inj, zbp_01, Nat.zero_add, Nat.reduceAdd, implies_true, List.nil_append, List.cons_append, List.append_assoc, Int.not_lt, Int.not_le, Decidable.not_not, Int.zero_add, Int.reduceLE, Int.reduceLT, Int.reduceEq, Int.reduceNe, Int.reduceAdd, Int.reduceSub, Int.reduceMul, Int.reduceNeg, Int.reduceToNat, Nat.reduceMul, Nat.reduceLT, Nat.reduceEqDiff, and_self, ite_true, ite_false, zx1, zx2, zRecv, List.length_cons, List.length_nil, ne_eq, not_true_eq_false, not_false_eq_true, true_or, or_true, or_false, false_or, and_false, false_and, zf01, zf10, reduceCtorEq, zSw_c, zSw_n, zm_r, zit_T, zit_F, false_implies, true_implies, zc_355, f_M_debts, g_M_debts])
  (repeat (first | rw [zit_f (by omega)] | rw [zit_t (by omega)]))
  refine ⟨by ((try simp only [zI_e]); (first | done | omega | skip)), by omega, by omega, by ((try simp only [zI_e]); (first | done | omega | skip)), by omega, by omega, by ((try simp only [zI_e]); (first | done | omega | skip)), by omega, by omega, by ((try simp only [zI_e]); (first | done | omega | skip)), by omega, by omega, by ((try simp only [zI_e]); (first | done | omega | skip)), ?_, rfl, ?_, ?_⟩
  · refine (dbM_eq (n := μ 357 71 + 1) (f := fun i => if i = μ 357 71 then (a, b, m, μ 357 72) else fM μ i) ?_ (fun i h0 h1 => ?_)).trans ?_
    · simp only [zm_r, zit_T]
    · unfold fM
      simp only [zm_r, zit_T]
      by_cases e : i = μ 357 71
      · subst e
        simp only [if_true, zit_T]
        (repeat (first | rw [zit_f (by omega)] | rw [zit_t (by omega)]))
      · rw [if_neg e]
        (repeat (first | rw [zit_f (by omega)] | rw [zit_t (by omega)]))
    · rw [tL_app (by omega), if_pos rfl]
      congr 1
      exact tL_congr (fun i h0 h1 => if_neg (by omega))
  · intro j hj
    (repeat (first | rw [zit_f (by omega)] | rw [zit_t (by omega)]))
  · (repeat (first | exact zfc.rf | refine zfc.zm ?_ (by decide)))
theorem q_M_lends {d : Nat} (hd : 3 ≤ d) {μ : zMem} {g t m : Int} (h : 0 ≤ μ 357 71 ∧ μ 357 71 < 16) (hg : 0 ≤ g ∧ g < 7) (ht : 0 ≤ t ∧ t < 7) (hi : zI (μ 357 g - m) ∧ zI (zm μ 357 g (μ 357 g - m) 357 t + m)) : zSp d 0 0 y_M_lends zT0 [vr 355, vi g, vi t, vi m] μ zT0 (fun r μ' => r = none ∧ dbM μ' = dbM μ ++ [(t, g, m, μ 357 72)] ∧ μ' 357 71 = μ 357 71 + 1 ∧ (∀ j : Int, (j < 7 ∨ 72 ≤ j) → μ' 357 j = zm (zm μ 357 g (μ 357 g - m)) 357 t (zm μ 357 g (μ 357 g - m) 357 t + m) 357 j) ∧ zfc [357] μ μ') := by
  refine zSp.ss [vr 355, vi g, vi t, vi m] rfl (w_M_lends (Nat.le_trans (by decide) hd)) rfl rfl ?_
  (try simp only [zit_e, Bool.and_eq_true, Bool.or_eq_true, Bool.not_eq_true', Bool.and_eq_false_iff, Bool.or_eq_false_iff, Bool.not_eq_false', zbe, zdt, zdf, zb2_p, zbp_0, zbp_1, zbp_inj, zbp_01, Bool.true_eq_false, Bool.false_eq_true, true_and, and_true, Decidable.not_not, Classical.not_not, implies_true, List.nil_append, List.cons_append, List.append_assoc, Option.some.injEq, Sum.inl.injEq, zSw_c, zSw_n]); (try simp only [zit_e, Bool.and_eq_true, Bool.or_eq_true, Bool.not_eq_true', Bool.and_eq_false_iff, Bool.or_eq_false_iff, Bool.not_eq_false', zbe, zdt, zdf, zb2_p, zbp_0, zbp_1, zbp_inj, zbp_01, Bool.true_eq_false, Bool.false_eq_true, true_and, and_true, Decidable.not_not, Classical.not_not, implies_true, List.nil_append, List.cons_append, List.append_assoc, Option.some.injEq, Sum.inl.injEq, zSw_c, zSw_n, zc_355]); (try simp only [zi_cs, zi_c0, zii_cs, zii_c0, zl_cs, zl_c0, zll_cs, zll_c0, zr_cs, zr_c0, zrr_cs, zrr_c0, zxs_cs, zxs_c0, zxx_cs, zxx_c0, zfree_c0, zfree_c1, zfree_cs, zfree_cz, zlong_i, zlong_r, zlong_x, zset_0, zset_s, true_and, and_true, Option.some.injEq, Sum.inl.injEq, Sum.inr.injEq, zb2_p, zbp_0, zbp_1, zbp_inj, zbp_01, Nat.zero_add, Nat.reduceAdd, implies_true, List.nil_append, List.cons_append, List.append_assoc, Int.not_lt, Int.not_le, Decidable.not_not, Int.zero_add, Int.reduceLE, Int.reduceLT, Int.reduceEq, Int.reduceNe, Int.reduceAdd, Int.reduceSub, Int.reduceMul, Int.reduceNeg, Int.reduceToNat, Nat.reduceMul, Nat.reduceLT, Nat.reduceEqDiff, and_self, ite_true, ite_false, zx1, zx2, zRecv, List.length_cons, List.length_nil, ne_eq, not_true_eq_false, not_false_eq_true, true_or, or_true, or_false, false_or, and_false, false_and, zf01, zf10, reduceCtorEq, zSw_c, zSw_n, zm_r, zit_T, zit_F, false_implies, true_implies, zc_355])
  simp only [zm_r, zit_T] at hi
  refine ⟨by ((try simp only [zI_e]); (first | done | omega | skip)), by omega, by omega, hi.1, by ((try simp only [zI_e]); (first | done | omega | skip)), by omega, by omega, hi.2, ?_⟩
  have e71 : ∀ v w : Int, zm (zm μ 357 g v) 357 t w 357 71 = μ 357 71 := fun v w => by
    simp only [zm_r, zit_T]
    (repeat (first | rw [zit_f (by omega)] | rw [zit_t (by omega)]))
  have e72 : ∀ v w : Int, zm (zm μ 357 g v) 357 t w 357 72 = μ 357 72 := fun v w => by
    simp only [zm_r, zit_T]
    (repeat (first | rw [zit_f (by omega)] | rw [zit_t (by omega)]))
  refine zCw.use (q_M_adds (d := 2) (Nat.le_refl _) (by rw [e71]; exact h)) hd (fun q μ2 e => ?_)
  obtain ⟨e0, e1, e2, e3, e4⟩ := e
  refine ⟨e0, ?_, ?_, ?_, ?_⟩
  · rw [e1, e72, dbM_c (μ := μ) (by omega) (fun j h0 h1 => ?_)]
    simp only [zm_r, zit_T]
    (repeat (first | rw [zit_f (by omega)] | rw [zit_t (by omega)]))
  · rw [e2, e71]
  · intro j hj
    rw [e3 j hj]
    simp only [zm_r, zit_T]
  · exact ((zfc.rf.zm (cs := [357]) (by decide)).zm (by decide)).tr e4 |>.mo (by simp)

