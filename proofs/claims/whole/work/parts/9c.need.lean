/-! the least that lets in, that shuts out -/
noncomputable def fstN (p : Int → Prop) : Nat → Int → Int
  | 0, _ => -1
  | n + 1, x => zit (p x) x (fstN p n (x + 1))
theorem fstN_in {p : Int → Prop} : ∀ (n : Nat) (x : Int), 0 ≤ x → -1 ≤ fstN p n x ∧ fstN p n x < x + n + 1
  | 0, x, h => by
    unfold fstN
    omega
  | n + 1, x, h => by
    have := fstN_in (p := p) n (x + 1) (by omega)
    unfold fstN zit
    split <;> omega
theorem fstN_s {p : Int → Prop} {n j : Nat} (h : j < n) : fstN p (n - j) j = zit (p j) j (fstN p (n - (j + 1)) ((j + 1 : Nat) : Int)) := by
  rw [show n - j = (n - (j + 1)) + 1 by omega, fstN]
  rfl
noncomputable def ndA (Z : Zt) (F : Option (List Cls)) (A : Lg) (w : Int → Int) (v h r : Int) : Int := fstN (fun x => r ≤ dpA Z F A w h v (owL h v A.2.1 + x) (owL v h A.2.1)) 1000 0
noncomputable def shA (Z : Zt) (F : Option (List Cls)) (A : Lg) (w : Int → Int) (o v r : Int) : Int := fstN (fun x => dpA Z F A w o v (owL o v A.2.1 - x) (owL v o A.2.1) < r) ((owL o v A.2.1).toNat + 1) 0
theorem ndA_in {Z : Zt} {F : Option (List Cls)} {A : Lg} {w : Int → Int} {v h r : Int} : -1 ≤ ndA Z F A w v h r ∧ ndA Z F A w v h r ≤ 1000 := by
  have := fstN_in (p := fun x => r ≤ dpA Z F A w h v (owL h v A.2.1 + x) (owL v h A.2.1)) 1000 0 (by decide)
  unfold ndA
  omega
theorem shA_in {Z : Zt} {F : Option (List Cls)} {A : Lg} {w : Int → Int} {v h r : Int} (hA : okA A) : -1 ≤ shA Z F A w v h r ∧ shA Z F A w v h r ≤ 160000 := by
  have := fstN_in (p := fun x => dpA Z F A w v h (owL v h A.2.1 - x) (owL h v A.2.1) < r) ((owL v h A.2.1).toNat + 1) 0 (by decide)
  have := owA (a := v) (b := h) hA
  unfold shA
  omega
def y_Ru_needOf : zMt := (⟨"DebtDoors$Rules", "needOf", "(LDebtDoors$Town;III)I"⟩, prog_9_method_7_code, 8, some .int)
theorem d_Ru_needOf_0 : decode prog_9_method_7_code 0 = .ok (.aload_n 1, 1) := by decide +kernel
theorem d_Ru_needOf_1 : decode prog_9_method_7_code 1 = .ok (.getfield 18, 3) := by decide +kernel
theorem d_Ru_needOf_4 : decode prog_9_method_7_code 4 = .ok (.iload_n 3, 1) := by decide +kernel
theorem d_Ru_needOf_5 : decode prog_9_method_7_code 5 = .ok (.iload_n 2, 1) := by decide +kernel
theorem d_Ru_needOf_6 : decode prog_9_method_7_code 6 = .ok (.invokevirtual 24, 3) := by decide +kernel
theorem d_Ru_needOf_9 : decode prog_9_method_7_code 9 = .ok (.istore 5, 2) := by decide +kernel
theorem d_Ru_needOf_11 : decode prog_9_method_7_code 11 = .ok (.aload_n 1, 1) := by decide +kernel
theorem d_Ru_needOf_12 : decode prog_9_method_7_code 12 = .ok (.getfield 18, 3) := by decide +kernel
theorem d_Ru_needOf_15 : decode prog_9_method_7_code 15 = .ok (.iload_n 2, 1) := by decide +kernel
theorem d_Ru_needOf_16 : decode prog_9_method_7_code 16 = .ok (.iload_n 3, 1) := by decide +kernel
theorem d_Ru_needOf_17 : decode prog_9_method_7_code 17 = .ok (.invokevirtual 24, 3) := by decide +kernel
theorem d_Ru_needOf_20 : decode prog_9_method_7_code 20 = .ok (.istore 6, 2) := by decide +kernel
theorem d_Ru_needOf_22 : decode prog_9_method_7_code 22 = .ok (.iconst 0, 1) := by decide +kernel
theorem d_Ru_needOf_23 : decode prog_9_method_7_code 23 = .ok (.istore 7, 2) := by decide +kernel
theorem d_Ru_needOf_25 : decode prog_9_method_7_code 25 = .ok (.iload 7, 2) := by decide +kernel
theorem d_Ru_needOf_27 : decode prog_9_method_7_code 27 = .ok (.sipush 999, 3) := by decide +kernel
theorem d_Ru_needOf_30 : decode prog_9_method_7_code 30 = .ok (.if_icmp .gt 31, 3) := by decide +kernel
theorem d_Ru_needOf_33 : decode prog_9_method_7_code 33 = .ok (.aload_n 0, 1) := by decide +kernel
theorem d_Ru_needOf_34 : decode prog_9_method_7_code 34 = .ok (.aload_n 1, 1) := by decide +kernel
theorem d_Ru_needOf_35 : decode prog_9_method_7_code 35 = .ok (.iload_n 3, 1) := by decide +kernel
theorem d_Ru_needOf_36 : decode prog_9_method_7_code 36 = .ok (.iload_n 2, 1) := by decide +kernel
theorem d_Ru_needOf_37 : decode prog_9_method_7_code 37 = .ok (.iload 5, 2) := by decide +kernel
theorem d_Ru_needOf_39 : decode prog_9_method_7_code 39 = .ok (.iload 7, 2) := by decide +kernel
theorem d_Ru_needOf_41 : decode prog_9_method_7_code 41 = .ok (.iadd, 1) := by decide +kernel
theorem d_Ru_needOf_42 : decode prog_9_method_7_code 42 = .ok (.iload 6, 2) := by decide +kernel
theorem d_Ru_needOf_44 : decode prog_9_method_7_code 44 = .ok (.invokevirtual 30, 3) := by decide +kernel
theorem d_Ru_needOf_47 : decode prog_9_method_7_code 47 = .ok (.iload 4, 2) := by decide +kernel
theorem d_Ru_needOf_49 : decode prog_9_method_7_code 49 = .ok (.if_icmp .lt 6, 3) := by decide +kernel
theorem d_Ru_needOf_52 : decode prog_9_method_7_code 52 = .ok (.iload 7, 2) := by decide +kernel
theorem d_Ru_needOf_54 : decode prog_9_method_7_code 54 = .ok (.ireturn, 1) := by decide +kernel
theorem d_Ru_needOf_55 : decode prog_9_method_7_code 55 = .ok (.iinc 7 1, 3) := by decide +kernel
theorem d_Ru_needOf_58 : decode prog_9_method_7_code 58 = .ok (.goto (-33), 3) := by decide +kernel
theorem d_Ru_needOf_61 : decode prog_9_method_7_code 61 = .ok (.iconst (-1), 1) := by decide +kernel
theorem d_Ru_needOf_62 : decode prog_9_method_7_code 62 = .ok (.ireturn, 1) := by decide +kernel
def w_Ru_needOf {d : Nat} (hd : 2 ≤ d) := (show SS ("DebtDoors$Rules", prog_9_method_7_code, 8) (some .int) d 0 0 0 0 _ from (sS (p1 := 11) (sI (xE (rV p_Le_owed (Nat.le_trans (Nat.le_of_ble_eq_true rfl) hd) lv_Ru_24 (rAi (rAi (rAr rA0 (rFr fl_Ru_18 nk_9_0 (rAn 1 d_Ru_needOf_0 rfl) d_Ru_needOf_1)) (rIn 3 d_Ru_needOf_4 rfl)) (rIn 2 d_Ru_needOf_5 rfl)) (by decide) d_Ru_needOf_6)) d_Ru_needOf_9 (by decide)) (sS (p1 := 22) (sI (xE (rV p_Le_owed (Nat.le_trans (Nat.le_of_ble_eq_true rfl) hd) lv_Ru_24 (rAi (rAi (rAr rA0 (rFr fl_Ru_18 nk_9_0 (rAn 1 d_Ru_needOf_11 rfl) d_Ru_needOf_12)) (rIn 2 d_Ru_needOf_15 rfl)) (rIn 3 d_Ru_needOf_16 rfl)) (by decide) d_Ru_needOf_17)) d_Ru_needOf_20 (by decide)) (sS (p1 := 61) (sS (p1 := 25) (sI (xE (rI d_Ru_needOf_22 rfl)) d_Ru_needOf_23 (by decide)) (sLp (ps := 55) (tt := 33) (pn := 61) (p1 := 0) (p2 := 0) (xC (rNot (rJ2 (tgt := 61) j_gt (rIl d_Ru_needOf_25) (rSi d_Ru_needOf_27 rfl) d_Ru_needOf_30 (by decide)))) (sIf (pn := 55) (tt := 52) (xNot (xJ2 (tgt := 55) j_lt (xV lv_Ru_30 (xA (rAi (rAi (rAi (rAi (rAr (rAr rA0 (rAn 0 d_Ru_needOf_33 rfl)) (rAn 1 d_Ru_needOf_34 rfl)) (rIn 3 d_Ru_needOf_35 rfl)) (rIn 2 d_Ru_needOf_36 rfl)) (r2 o_add (rIl d_Ru_needOf_37) (rIl d_Ru_needOf_39) d_Ru_needOf_41)) (rIl d_Ru_needOf_42))) (by decide) d_Ru_needOf_44) (xE (rIl d_Ru_needOf_47)) d_Ru_needOf_49 (by decide))) (sRi (xE (rIl d_Ru_needOf_52)) d_Ru_needOf_54 rfl)) (sGo (pn := 25) (sInc d_Ru_needOf_55 (by decide)) d_Ru_needOf_58 (by decide)))) (sRi (xE (rI d_Ru_needOf_61 rfl)) d_Ru_needOf_62 rfl)))))
def y_M_needOf : zMt := (⟨"DebtDoorsModel", "needOf", "(III)I"⟩, prog_14_method_101_code, 7, some .int)
theorem d_M_needOf_0 : decode prog_14_method_101_code 0 = .ok (.aload_n 0, 1) := by decide +kernel
theorem d_M_needOf_1 : decode prog_14_method_101_code 1 = .ok (.iload_n 2, 1) := by decide +kernel
theorem d_M_needOf_2 : decode prog_14_method_101_code 2 = .ok (.iload_n 1, 1) := by decide +kernel
theorem d_M_needOf_3 : decode prog_14_method_101_code 3 = .ok (.invokevirtual 178, 3) := by decide +kernel
theorem d_M_needOf_6 : decode prog_14_method_101_code 6 = .ok (.istore 4, 2) := by decide +kernel
theorem d_M_needOf_8 : decode prog_14_method_101_code 8 = .ok (.aload_n 0, 1) := by decide +kernel
theorem d_M_needOf_9 : decode prog_14_method_101_code 9 = .ok (.iload_n 1, 1) := by decide +kernel
theorem d_M_needOf_10 : decode prog_14_method_101_code 10 = .ok (.iload_n 2, 1) := by decide +kernel
theorem d_M_needOf_11 : decode prog_14_method_101_code 11 = .ok (.invokevirtual 178, 3) := by decide +kernel
theorem d_M_needOf_14 : decode prog_14_method_101_code 14 = .ok (.istore 5, 2) := by decide +kernel
theorem d_M_needOf_16 : decode prog_14_method_101_code 16 = .ok (.iconst 0, 1) := by decide +kernel
theorem d_M_needOf_17 : decode prog_14_method_101_code 17 = .ok (.istore 6, 2) := by decide +kernel
theorem d_M_needOf_19 : decode prog_14_method_101_code 19 = .ok (.iload 6, 2) := by decide +kernel
theorem d_M_needOf_21 : decode prog_14_method_101_code 21 = .ok (.sipush 999, 3) := by decide +kernel
theorem d_M_needOf_24 : decode prog_14_method_101_code 24 = .ok (.if_icmp .gt 29, 3) := by decide +kernel
theorem d_M_needOf_27 : decode prog_14_method_101_code 27 = .ok (.aload_n 0, 1) := by decide +kernel
theorem d_M_needOf_28 : decode prog_14_method_101_code 28 = .ok (.iload_n 2, 1) := by decide +kernel
theorem d_M_needOf_29 : decode prog_14_method_101_code 29 = .ok (.iload_n 1, 1) := by decide +kernel
theorem d_M_needOf_30 : decode prog_14_method_101_code 30 = .ok (.iload 4, 2) := by decide +kernel
theorem d_M_needOf_32 : decode prog_14_method_101_code 32 = .ok (.iload 6, 2) := by decide +kernel
theorem d_M_needOf_34 : decode prog_14_method_101_code 34 = .ok (.iadd, 1) := by decide +kernel
theorem d_M_needOf_35 : decode prog_14_method_101_code 35 = .ok (.iload 5, 2) := by decide +kernel
theorem d_M_needOf_37 : decode prog_14_method_101_code 37 = .ok (.invokevirtual 338, 3) := by decide +kernel
theorem d_M_needOf_40 : decode prog_14_method_101_code 40 = .ok (.iload_n 3, 1) := by decide +kernel
theorem d_M_needOf_41 : decode prog_14_method_101_code 41 = .ok (.if_icmp .lt 6, 3) := by decide +kernel
theorem d_M_needOf_44 : decode prog_14_method_101_code 44 = .ok (.iload 6, 2) := by decide +kernel
theorem d_M_needOf_46 : decode prog_14_method_101_code 46 = .ok (.ireturn, 1) := by decide +kernel
theorem d_M_needOf_47 : decode prog_14_method_101_code 47 = .ok (.iinc 6 1, 3) := by decide +kernel
theorem d_M_needOf_50 : decode prog_14_method_101_code 50 = .ok (.goto (-31), 3) := by decide +kernel
theorem d_M_needOf_53 : decode prog_14_method_101_code 53 = .ok (.iconst (-1), 1) := by decide +kernel
theorem d_M_needOf_54 : decode prog_14_method_101_code 54 = .ok (.ireturn, 1) := by decide +kernel
def w_M_needOf {d : Nat} (hd : 3 ≤ d) := (show SS ("DebtDoorsModel", prog_14_method_101_code, 7) (some .int) d 0 0 0 0 _ from (sS (p1 := 8) (sI (xE (rV p_M_owed (Nat.le_trans (Nat.le_of_ble_eq_true rfl) hd) lv_M_178 (rAi (rAi (rAr rA0 (rAn 0 d_M_needOf_0 rfl)) (rIn 2 d_M_needOf_1 rfl)) (rIn 1 d_M_needOf_2 rfl)) (by decide) d_M_needOf_3)) d_M_needOf_6 (by decide)) (sS (p1 := 16) (sI (xE (rV p_M_owed (Nat.le_trans (Nat.le_of_ble_eq_true rfl) hd) lv_M_178 (rAi (rAi (rAr rA0 (rAn 0 d_M_needOf_8 rfl)) (rIn 1 d_M_needOf_9 rfl)) (rIn 2 d_M_needOf_10 rfl)) (by decide) d_M_needOf_11)) d_M_needOf_14 (by decide)) (sS (p1 := 53) (sS (p1 := 19) (sI (xE (rI d_M_needOf_16 rfl)) d_M_needOf_17 (by decide)) (sLp (ps := 47) (tt := 27) (pn := 53) (p1 := 0) (p2 := 0) (xC (rNot (rJ2 (tgt := 53) j_gt (rIl d_M_needOf_19) (rSi d_M_needOf_21 rfl) d_M_needOf_24 (by decide)))) (sIf (pn := 47) (tt := 44) (xNot (xJ2 (tgt := 47) j_lt (xV lv_M_338 (xA (rAi (rAi (rAi (rAi (rAr rA0 (rAn 0 d_M_needOf_27 rfl)) (rIn 2 d_M_needOf_28 rfl)) (rIn 1 d_M_needOf_29 rfl)) (r2 o_add (rIl d_M_needOf_30) (rIl d_M_needOf_32) d_M_needOf_34)) (rIl d_M_needOf_35))) (by decide) d_M_needOf_37) (xE (rIn 3 d_M_needOf_40 rfl)) d_M_needOf_41 (by decide))) (sRi (xE (rIl d_M_needOf_44)) d_M_needOf_46 rfl)) (sGo (pn := 19) (sInc d_M_needOf_47 (by decide)) d_M_needOf_50 (by decide)))) (sRi (xE (rI d_M_needOf_53 rfl)) d_M_needOf_54 rfl)))))
def y_Ru_shutBy : zMt := (⟨"DebtDoors$Rules", "shutBy", "(LDebtDoors$Town;III)I"⟩, prog_9_method_8_code, 8, some .int)
theorem d_Ru_shutBy_0 : decode prog_9_method_8_code 0 = .ok (.aload_n 1, 1) := by decide +kernel
theorem d_Ru_shutBy_1 : decode prog_9_method_8_code 1 = .ok (.getfield 18, 3) := by decide +kernel
theorem d_Ru_shutBy_4 : decode prog_9_method_8_code 4 = .ok (.iload_n 2, 1) := by decide +kernel
theorem d_Ru_shutBy_5 : decode prog_9_method_8_code 5 = .ok (.iload_n 3, 1) := by decide +kernel
theorem d_Ru_shutBy_6 : decode prog_9_method_8_code 6 = .ok (.invokevirtual 24, 3) := by decide +kernel
theorem d_Ru_shutBy_9 : decode prog_9_method_8_code 9 = .ok (.istore 5, 2) := by decide +kernel
theorem d_Ru_shutBy_11 : decode prog_9_method_8_code 11 = .ok (.aload_n 1, 1) := by decide +kernel
theorem d_Ru_shutBy_12 : decode prog_9_method_8_code 12 = .ok (.getfield 18, 3) := by decide +kernel
theorem d_Ru_shutBy_15 : decode prog_9_method_8_code 15 = .ok (.iload_n 3, 1) := by decide +kernel
theorem d_Ru_shutBy_16 : decode prog_9_method_8_code 16 = .ok (.iload_n 2, 1) := by decide +kernel
theorem d_Ru_shutBy_17 : decode prog_9_method_8_code 17 = .ok (.invokevirtual 24, 3) := by decide +kernel
theorem d_Ru_shutBy_20 : decode prog_9_method_8_code 20 = .ok (.istore 6, 2) := by decide +kernel
theorem d_Ru_shutBy_22 : decode prog_9_method_8_code 22 = .ok (.iconst 0, 1) := by decide +kernel
theorem d_Ru_shutBy_23 : decode prog_9_method_8_code 23 = .ok (.istore 7, 2) := by decide +kernel
theorem d_Ru_shutBy_25 : decode prog_9_method_8_code 25 = .ok (.iload 7, 2) := by decide +kernel
theorem d_Ru_shutBy_27 : decode prog_9_method_8_code 27 = .ok (.iload 5, 2) := by decide +kernel
theorem d_Ru_shutBy_29 : decode prog_9_method_8_code 29 = .ok (.if_icmp .gt 31, 3) := by decide +kernel
theorem d_Ru_shutBy_32 : decode prog_9_method_8_code 32 = .ok (.aload_n 0, 1) := by decide +kernel
theorem d_Ru_shutBy_33 : decode prog_9_method_8_code 33 = .ok (.aload_n 1, 1) := by decide +kernel
theorem d_Ru_shutBy_34 : decode prog_9_method_8_code 34 = .ok (.iload_n 2, 1) := by decide +kernel
theorem d_Ru_shutBy_35 : decode prog_9_method_8_code 35 = .ok (.iload_n 3, 1) := by decide +kernel
theorem d_Ru_shutBy_36 : decode prog_9_method_8_code 36 = .ok (.iload 5, 2) := by decide +kernel
theorem d_Ru_shutBy_38 : decode prog_9_method_8_code 38 = .ok (.iload 7, 2) := by decide +kernel
theorem d_Ru_shutBy_40 : decode prog_9_method_8_code 40 = .ok (.isub, 1) := by decide +kernel
theorem d_Ru_shutBy_41 : decode prog_9_method_8_code 41 = .ok (.iload 6, 2) := by decide +kernel
theorem d_Ru_shutBy_43 : decode prog_9_method_8_code 43 = .ok (.invokevirtual 30, 3) := by decide +kernel
theorem d_Ru_shutBy_46 : decode prog_9_method_8_code 46 = .ok (.iload 4, 2) := by decide +kernel
theorem d_Ru_shutBy_48 : decode prog_9_method_8_code 48 = .ok (.if_icmp .ge 6, 3) := by decide +kernel
theorem d_Ru_shutBy_51 : decode prog_9_method_8_code 51 = .ok (.iload 7, 2) := by decide +kernel
theorem d_Ru_shutBy_53 : decode prog_9_method_8_code 53 = .ok (.ireturn, 1) := by decide +kernel
theorem d_Ru_shutBy_54 : decode prog_9_method_8_code 54 = .ok (.iinc 7 1, 3) := by decide +kernel
theorem d_Ru_shutBy_57 : decode prog_9_method_8_code 57 = .ok (.goto (-32), 3) := by decide +kernel
theorem d_Ru_shutBy_60 : decode prog_9_method_8_code 60 = .ok (.iconst (-1), 1) := by decide +kernel
theorem d_Ru_shutBy_61 : decode prog_9_method_8_code 61 = .ok (.ireturn, 1) := by decide +kernel
def w_Ru_shutBy {d : Nat} (hd : 2 ≤ d) := (show SS ("DebtDoors$Rules", prog_9_method_8_code, 8) (some .int) d 0 0 0 0 _ from (sS (p1 := 11) (sI (xE (rV p_Le_owed (Nat.le_trans (Nat.le_of_ble_eq_true rfl) hd) lv_Ru_24 (rAi (rAi (rAr rA0 (rFr fl_Ru_18 nk_9_0 (rAn 1 d_Ru_shutBy_0 rfl) d_Ru_shutBy_1)) (rIn 2 d_Ru_shutBy_4 rfl)) (rIn 3 d_Ru_shutBy_5 rfl)) (by decide) d_Ru_shutBy_6)) d_Ru_shutBy_9 (by decide)) (sS (p1 := 22) (sI (xE (rV p_Le_owed (Nat.le_trans (Nat.le_of_ble_eq_true rfl) hd) lv_Ru_24 (rAi (rAi (rAr rA0 (rFr fl_Ru_18 nk_9_0 (rAn 1 d_Ru_shutBy_11 rfl) d_Ru_shutBy_12)) (rIn 3 d_Ru_shutBy_15 rfl)) (rIn 2 d_Ru_shutBy_16 rfl)) (by decide) d_Ru_shutBy_17)) d_Ru_shutBy_20 (by decide)) (sS (p1 := 60) (sS (p1 := 25) (sI (xE (rI d_Ru_shutBy_22 rfl)) d_Ru_shutBy_23 (by decide)) (sLp (ps := 54) (tt := 32) (pn := 60) (p1 := 0) (p2 := 0) (xC (rNot (rJ2 (tgt := 60) j_gt (rIl d_Ru_shutBy_25) (rIl d_Ru_shutBy_27) d_Ru_shutBy_29 (by decide)))) (sIf (pn := 54) (tt := 51) (xNot (xJ2 (tgt := 54) j_ge (xV lv_Ru_30 (xA (rAi (rAi (rAi (rAi (rAr (rAr rA0 (rAn 0 d_Ru_shutBy_32 rfl)) (rAn 1 d_Ru_shutBy_33 rfl)) (rIn 2 d_Ru_shutBy_34 rfl)) (rIn 3 d_Ru_shutBy_35 rfl)) (r2 o_sub (rIl d_Ru_shutBy_36) (rIl d_Ru_shutBy_38) d_Ru_shutBy_40)) (rIl d_Ru_shutBy_41))) (by decide) d_Ru_shutBy_43) (xE (rIl d_Ru_shutBy_46)) d_Ru_shutBy_48 (by decide))) (sRi (xE (rIl d_Ru_shutBy_51)) d_Ru_shutBy_53 rfl)) (sGo (pn := 25) (sInc d_Ru_shutBy_54 (by decide)) d_Ru_shutBy_57 (by decide)))) (sRi (xE (rI d_Ru_shutBy_60 rfl)) d_Ru_shutBy_61 rfl)))))
def y_M_shutBy : zMt := (⟨"DebtDoorsModel", "shutBy", "(III)I"⟩, prog_14_method_116_code, 7, some .int)
theorem d_M_shutBy_0 : decode prog_14_method_116_code 0 = .ok (.aload_n 0, 1) := by decide +kernel
theorem d_M_shutBy_1 : decode prog_14_method_116_code 1 = .ok (.iload_n 1, 1) := by decide +kernel
theorem d_M_shutBy_2 : decode prog_14_method_116_code 2 = .ok (.iload_n 2, 1) := by decide +kernel
theorem d_M_shutBy_3 : decode prog_14_method_116_code 3 = .ok (.invokevirtual 178, 3) := by decide +kernel
theorem d_M_shutBy_6 : decode prog_14_method_116_code 6 = .ok (.istore 4, 2) := by decide +kernel
theorem d_M_shutBy_8 : decode prog_14_method_116_code 8 = .ok (.aload_n 0, 1) := by decide +kernel
theorem d_M_shutBy_9 : decode prog_14_method_116_code 9 = .ok (.iload_n 2, 1) := by decide +kernel
theorem d_M_shutBy_10 : decode prog_14_method_116_code 10 = .ok (.iload_n 1, 1) := by decide +kernel
theorem d_M_shutBy_11 : decode prog_14_method_116_code 11 = .ok (.invokevirtual 178, 3) := by decide +kernel
theorem d_M_shutBy_14 : decode prog_14_method_116_code 14 = .ok (.istore 5, 2) := by decide +kernel
theorem d_M_shutBy_16 : decode prog_14_method_116_code 16 = .ok (.iconst 0, 1) := by decide +kernel
theorem d_M_shutBy_17 : decode prog_14_method_116_code 17 = .ok (.istore 6, 2) := by decide +kernel
theorem d_M_shutBy_19 : decode prog_14_method_116_code 19 = .ok (.iload 6, 2) := by decide +kernel
theorem d_M_shutBy_21 : decode prog_14_method_116_code 21 = .ok (.iload 4, 2) := by decide +kernel
theorem d_M_shutBy_23 : decode prog_14_method_116_code 23 = .ok (.if_icmp .gt 29, 3) := by decide +kernel
theorem d_M_shutBy_26 : decode prog_14_method_116_code 26 = .ok (.aload_n 0, 1) := by decide +kernel
theorem d_M_shutBy_27 : decode prog_14_method_116_code 27 = .ok (.iload_n 1, 1) := by decide +kernel
theorem d_M_shutBy_28 : decode prog_14_method_116_code 28 = .ok (.iload_n 2, 1) := by decide +kernel
theorem d_M_shutBy_29 : decode prog_14_method_116_code 29 = .ok (.iload 4, 2) := by decide +kernel
theorem d_M_shutBy_31 : decode prog_14_method_116_code 31 = .ok (.iload 6, 2) := by decide +kernel
theorem d_M_shutBy_33 : decode prog_14_method_116_code 33 = .ok (.isub, 1) := by decide +kernel
theorem d_M_shutBy_34 : decode prog_14_method_116_code 34 = .ok (.iload 5, 2) := by decide +kernel
theorem d_M_shutBy_36 : decode prog_14_method_116_code 36 = .ok (.invokevirtual 338, 3) := by decide +kernel
theorem d_M_shutBy_39 : decode prog_14_method_116_code 39 = .ok (.iload_n 3, 1) := by decide +kernel
theorem d_M_shutBy_40 : decode prog_14_method_116_code 40 = .ok (.if_icmp .ge 6, 3) := by decide +kernel
theorem d_M_shutBy_43 : decode prog_14_method_116_code 43 = .ok (.iload 6, 2) := by decide +kernel
theorem d_M_shutBy_45 : decode prog_14_method_116_code 45 = .ok (.ireturn, 1) := by decide +kernel
theorem d_M_shutBy_46 : decode prog_14_method_116_code 46 = .ok (.iinc 6 1, 3) := by decide +kernel
theorem d_M_shutBy_49 : decode prog_14_method_116_code 49 = .ok (.goto (-30), 3) := by decide +kernel
theorem d_M_shutBy_52 : decode prog_14_method_116_code 52 = .ok (.iconst (-1), 1) := by decide +kernel
theorem d_M_shutBy_53 : decode prog_14_method_116_code 53 = .ok (.ireturn, 1) := by decide +kernel
def w_M_shutBy {d : Nat} (hd : 3 ≤ d) := (show SS ("DebtDoorsModel", prog_14_method_116_code, 7) (some .int) d 0 0 0 0 _ from (sS (p1 := 8) (sI (xE (rV p_M_owed (Nat.le_trans (Nat.le_of_ble_eq_true rfl) hd) lv_M_178 (rAi (rAi (rAr rA0 (rAn 0 d_M_shutBy_0 rfl)) (rIn 1 d_M_shutBy_1 rfl)) (rIn 2 d_M_shutBy_2 rfl)) (by decide) d_M_shutBy_3)) d_M_shutBy_6 (by decide)) (sS (p1 := 16) (sI (xE (rV p_M_owed (Nat.le_trans (Nat.le_of_ble_eq_true rfl) hd) lv_M_178 (rAi (rAi (rAr rA0 (rAn 0 d_M_shutBy_8 rfl)) (rIn 2 d_M_shutBy_9 rfl)) (rIn 1 d_M_shutBy_10 rfl)) (by decide) d_M_shutBy_11)) d_M_shutBy_14 (by decide)) (sS (p1 := 52) (sS (p1 := 19) (sI (xE (rI d_M_shutBy_16 rfl)) d_M_shutBy_17 (by decide)) (sLp (ps := 46) (tt := 26) (pn := 52) (p1 := 0) (p2 := 0) (xC (rNot (rJ2 (tgt := 52) j_gt (rIl d_M_shutBy_19) (rIl d_M_shutBy_21) d_M_shutBy_23 (by decide)))) (sIf (pn := 46) (tt := 43) (xNot (xJ2 (tgt := 46) j_ge (xV lv_M_338 (xA (rAi (rAi (rAi (rAi (rAr rA0 (rAn 0 d_M_shutBy_26 rfl)) (rIn 1 d_M_shutBy_27 rfl)) (rIn 2 d_M_shutBy_28 rfl)) (r2 o_sub (rIl d_M_shutBy_29) (rIl d_M_shutBy_31) d_M_shutBy_33)) (rIl d_M_shutBy_34))) (by decide) d_M_shutBy_36) (xE (rIn 3 d_M_shutBy_39 rfl)) d_M_shutBy_40 (by decide))) (sRi (xE (rIl d_M_shutBy_43)) d_M_shutBy_45 rfl)) (sGo (pn := 19) (sInc d_M_shutBy_46 (by decide)) d_M_shutBy_49 (by decide)))) (sRi (xE (rI d_M_shutBy_52 rfl)) d_M_shutBy_53 rfl)))))
theorem q_Ru_needOf {d : Nat} (hd : 7 ≤ d) {μ : zMem} {Z : Zt} {F : Option (List Cls)} {A : Lg} {w : Int → Int} {v h r : Int} (hc : CTx μ Z F A w) (hv : 0 ≤ v ∧ v ≤ 6) (hh : 0 ≤ h ∧ h ≤ 6) : zSp d 0 0 y_Ru_needOf zT0 [vr 324, vr 1, vi v, vi h, vi r] μ zT0 (fun q μ' => q = some (vi (ndA Z F A w v h r)) ∧ CF w μ μ') := by
  have hd1 := hc.d
  have hw := hc.2.2.2.2.2
  refine zSp.ss [vr 324, vr 1, vi v, vi h, vi r, vx 0, vx 0, vx 0] rfl (w_Ru_needOf (Nat.le_trans (by decide) hd)) rfl rfl ?_
  obtain ⟨N, hN⟩ : ∃ N : Nat, N = 1000 := ⟨_, rfl⟩
  (try simp only [zit_e, Bool.and_eq_true, Bool.or_eq_true, Bool.not_eq_true', Bool.and_eq_false_iff, Bool.or_eq_false_iff, Bool.not_eq_false', zbe, zdt, zdf, zb2_p, zbp_0, zbp_1, zbp_inj, zbp_01, Bool.true_eq_false, Bool.false_eq_true, true_and, and_true, Decidable.not_not, Classical.not_not, implies_true, List.nil_append, List.cons_append, List.append_assoc, Option.some.injEq, Sum.inl.injEq, zSw_c, zSw_n]); (try simp only [zit_e, Bool.and_eq_true, Bool.or_eq_true, Bool.not_eq_true', Bool.and_eq_false_iff, Bool.or_eq_false_iff, Bool.not_eq_false', zbe, zdt, zdf, zb2_p, zbp_0, zbp_1, zbp_inj, zbp_01, Bool.true_eq_false, Bool.false_eq_true, true_and, and_true, Decidable.not_not, Classical.not_not, implies_true, List.nil_append, List.cons_append, List.append_assoc, Option.some.injEq, Sum.inl.injEq, zSw_c, zSw_n, zc_324, zc_1, zc_2, f_Le_owed, g_Le_owed]); (try simp only [zi_cs, zi_c0, zii_cs, zii_c0, zl_cs, zl_c0, zll_cs, zll_c0, zr_cs, zr_c0, zrr_cs, zrr_c0, zxs_cs, zxs_c0, zxx_cs, zxx_c0, zfree_c0, zfree_c1, zfree_cs, zfree_cz, zlong_i, zlong_r, zlong_x, zset_0, zset_s, true_and, and_true, Option.some.injEq, Sum.inl.injEq, Sum.inr.injEq, zb2_p, zbp_0, zbp_1, zbp_inj, zbp_01, Nat.zero_add, Nat.reduceAdd, implies_true, List.nil_append, List.cons_append, List.append_assoc, Int.not_lt, Int.not_le, Decidable.not_not, Int.zero_add, Int.reduceLE, Int.reduceLT, Int.reduceEq, Int.reduceNe, Int.reduceAdd, Int.reduceSub, Int.reduceMul, Int.reduceNeg, Int.reduceToNat, Nat.reduceMul, Nat.reduceLT, Nat.reduceEqDiff, and_self, ite_true, ite_false, zx1, zx2, zRecv, List.length_cons, List.length_nil, ne_eq, not_true_eq_false, not_false_eq_true, true_or, or_true, or_false, false_or, and_false, false_and, zf01, zf10, reduceCtorEq, zSw_c, zSw_n, zm_r, zit_T, zit_F, false_implies, true_implies, zc_324, zc_1, zc_2, f_Le_owed, g_Le_owed])
  have b1 := owA (a := h) (b := v) hc.2.1
  have b2 := owA (a := v) (b := h) hc.2.1
  rw [hd1.1]
  unfold ndA
  rw [← hN]
  generalize hp : (fun x => r ≤ dpA Z F A w h v (owL h v A.2.1 + x) (owL v h A.2.1)) = p
  refine ⟨hd1.2.2.2.1, hd1.2.2.2.1, ?_⟩
  refine zLoop.up N (fun j ρ μ1 => ρ = [vr 324, vr 1, vi v, vi h, vi r, vi (owL h v A.2.1), vi (owL v h A.2.1), vi j] ∧ CF w μ μ1 ∧ fstN p N 0 = fstN p (N - j) j) ⟨rfl, CF.rf hw, rfl⟩ ?_
  rintro j ρ μ1 hj ⟨rfl, hF, hf⟩
  (try simp only [zit_e, Bool.and_eq_true, Bool.or_eq_true, Bool.not_eq_true', Bool.and_eq_false_iff, Bool.or_eq_false_iff, Bool.not_eq_false', zbe, zdt, zdf, zb2_p, zbp_0, zbp_1, zbp_inj, zbp_01, Bool.true_eq_false, Bool.false_eq_true, true_and, and_true, Decidable.not_not, Classical.not_not, implies_true, List.nil_append, List.cons_append, List.append_assoc, Option.some.injEq, Sum.inl.injEq, zSw_c, zSw_n]); (try simp only [zit_e, Bool.and_eq_true, Bool.or_eq_true, Bool.not_eq_true', Bool.and_eq_false_iff, Bool.or_eq_false_iff, Bool.not_eq_false', zbe, zdt, zdf, zb2_p, zbp_0, zbp_1, zbp_inj, zbp_01, Bool.true_eq_false, Bool.false_eq_true, true_and, and_true, Decidable.not_not, Classical.not_not, implies_true, List.nil_append, List.cons_append, List.append_assoc, Option.some.injEq, Sum.inl.injEq, zSw_c, zSw_n, zc_324, zc_1, zc_2]); (try simp only [zi_cs, zi_c0, zii_cs, zii_c0, zl_cs, zl_c0, zll_cs, zll_c0, zr_cs, zr_c0, zrr_cs, zrr_c0, zxs_cs, zxs_c0, zxx_cs, zxx_c0, zfree_c0, zfree_c1, zfree_cs, zfree_cz, zlong_i, zlong_r, zlong_x, zset_0, zset_s, true_and, and_true, Option.some.injEq, Sum.inl.injEq, Sum.inr.injEq, zb2_p, zbp_0, zbp_1, zbp_inj, zbp_01, Nat.zero_add, Nat.reduceAdd, implies_true, List.nil_append, List.cons_append, List.append_assoc, Int.not_lt, Int.not_le, Decidable.not_not, Int.zero_add, Int.reduceLE, Int.reduceLT, Int.reduceEq, Int.reduceNe, Int.reduceAdd, Int.reduceSub, Int.reduceMul, Int.reduceNeg, Int.reduceToNat, Nat.reduceMul, Nat.reduceLT, Nat.reduceEqDiff, and_self, ite_true, ite_false, zx1, zx2, zRecv, List.length_cons, List.length_nil, ne_eq, not_true_eq_false, not_false_eq_true, true_or, or_true, or_false, false_or, and_false, false_and, zf01, zf10, reduceCtorEq, zSw_c, zSw_n, zm_r, zit_T, zit_F, false_implies, true_implies, zc_324, zc_1, zc_2])
  refine zif (fun c => ?_) (fun c => ?_)
  · rw [fstN_s (by omega)] at hf
    refine ⟨by ((try simp only [zI_e]); (first | done | omega | skip)), ?_⟩
    refine zCw.use (q_C_depth (d := 6) (by decide) (hc.f hF) hh hv (by omega) (by omega)) (by omega) (fun q μ2 e => ?_)
    obtain ⟨rfl, e2⟩ := e
    have hpj : p j ↔ r ≤ dpA Z F A w h v (owL h v A.2.1 + j) (owL v h A.2.1) := by rw [← hp]
    refine ⟨_, rfl, ?_⟩
    refine zif (fun c2 => ?_) (fun c2 => ?_)
    · rw [zit_t (hpj.mpr c2)] at hf
      exact ⟨hf.symm, hF.tr e2⟩
    · rw [zit_f (fun z => c2 (hpj.mp z))] at hf
      exact ⟨zI_s (by omega) (by omega), znx (P := fun j' => [vr 324, vr 1, vi v, vi h, vi r, vi (owL h v A.2.1), vi (owL v h A.2.1), vi ((j : Int) + 1)] = [vr 324, vr 1, vi v, vi h, vi r, vi (owL h v A.2.1), vi (owL v h A.2.1), vi j'] ∧ CF w μ μ2 ∧ fstN p N 0 = fstN p (N - j') j') (by omega) ⟨rfl, hF.tr e2, hf⟩⟩
  · have e : j = N := by omega
    subst e
    rw [Nat.sub_self] at hf
    exact ⟨hf.symm, hF⟩
theorem q_M_needOf {d : Nat} (hd : 49 ≤ d) {μ : zMem} {Z : Zt} {F : Option (List Cls)} {A : Lg} {w : Int → Int} {v h r : Int} (hc : MTx μ Z F A w) (hv : 0 ≤ v ∧ v ≤ 6) (hh : 0 ≤ h ∧ h ≤ 6) : zSp d 0 0 y_M_needOf zT0 [vr 355, vi v, vi h, vi r] μ zT0 (fun q μ' => q = some (vi (ndA Z F A w v h r)) ∧ MF μ μ') := by
  have hd1 := hc.d
  refine zSp.ss [vr 355, vi v, vi h, vi r, vx 0, vx 0, vx 0] rfl (w_M_needOf (Nat.le_trans (by decide) hd)) rfl rfl ?_
  obtain ⟨N, hN⟩ : ∃ N : Nat, N = 1000 := ⟨_, rfl⟩
  (try simp only [zit_e, Bool.and_eq_true, Bool.or_eq_true, Bool.not_eq_true', Bool.and_eq_false_iff, Bool.or_eq_false_iff, Bool.not_eq_false', zbe, zdt, zdf, zb2_p, zbp_0, zbp_1, zbp_inj, zbp_01, Bool.true_eq_false, Bool.false_eq_true, true_and, and_true, Decidable.not_not, Classical.not_not, implies_true, List.nil_append, List.cons_append, List.append_assoc, Option.some.injEq, Sum.inl.injEq, zSw_c, zSw_n]); (try simp only [zit_e, Bool.and_eq_true, Bool.or_eq_true, Bool.not_eq_true', Bool.and_eq_false_iff, Bool.or_eq_false_iff, Bool.not_eq_false', zbe, zdt, zdf, zb2_p, zbp_0, zbp_1, zbp_inj, zbp_01, Bool.true_eq_false, Bool.false_eq_true, true_and, and_true, Decidable.not_not, Classical.not_not, implies_true, List.nil_append, List.cons_append, List.append_assoc, Option.some.injEq, Sum.inl.injEq, zSw_c, zSw_n, zc_355, f_M_owed, g_M_owed]); (try simp only [zi_cs, zi_c0, zii_cs, zii_c0, zl_cs, zl_c0, zll_cs, zll_c0, zr_cs, zr_c0, zrr_cs, zrr_c0, zxs_cs, zxs_c0, zxx_cs, zxx_c0, zfree_c0, zfree_c1, zfree_cs, zfree_cz, zlong_i, zlong_r, zlong_x, zset_0, zset_s, true_and, and_true, Option.some.injEq, Sum.inl.injEq, Sum.inr.injEq, zb2_p, zbp_0, zbp_1, zbp_inj, zbp_01, Nat.zero_add, Nat.reduceAdd, implies_true, List.nil_append, List.cons_append, List.append_assoc, Int.not_lt, Int.not_le, Decidable.not_not, Int.zero_add, Int.reduceLE, Int.reduceLT, Int.reduceEq, Int.reduceNe, Int.reduceAdd, Int.reduceSub, Int.reduceMul, Int.reduceNeg, Int.reduceToNat, Nat.reduceMul, Nat.reduceLT, Nat.reduceEqDiff, and_self, ite_true, ite_false, zx1, zx2, zRecv, List.length_cons, List.length_nil, ne_eq, not_true_eq_false, not_false_eq_true, true_or, or_true, or_false, false_or, and_false, false_and, zf01, zf10, reduceCtorEq, zSw_c, zSw_n, zm_r, zit_T, zit_F, false_implies, true_implies, zc_355, f_M_owed, g_M_owed])
  have b1 := owA (a := h) (b := v) hc.2.1
  have b2 := owA (a := v) (b := h) hc.2.1
  rw [hd1.1]
  unfold ndA
  rw [← hN]
  generalize hp : (fun x => r ≤ dpA Z F A w h v (owL h v A.2.1 + x) (owL v h A.2.1)) = p
  refine ⟨hd1.2.2.2.1, hd1.2.2.2.1, ?_⟩
  refine zLoop.up N (fun j ρ μ1 => ρ = [vr 355, vi v, vi h, vi r, vi (owL h v A.2.1), vi (owL v h A.2.1), vi j] ∧ MF μ μ1 ∧ fstN p N 0 = fstN p (N - j) j) ⟨rfl, MF.rf, rfl⟩ ?_
  rintro j ρ μ1 hj ⟨rfl, hF, hf⟩
  (try simp only [zit_e, Bool.and_eq_true, Bool.or_eq_true, Bool.not_eq_true', Bool.and_eq_false_iff, Bool.or_eq_false_iff, Bool.not_eq_false', zbe, zdt, zdf, zb2_p, zbp_0, zbp_1, zbp_inj, zbp_01, Bool.true_eq_false, Bool.false_eq_true, true_and, and_true, Decidable.not_not, Classical.not_not, implies_true, List.nil_append, List.cons_append, List.append_assoc, Option.some.injEq, Sum.inl.injEq, zSw_c, zSw_n]); (try simp only [zit_e, Bool.and_eq_true, Bool.or_eq_true, Bool.not_eq_true', Bool.and_eq_false_iff, Bool.or_eq_false_iff, Bool.not_eq_false', zbe, zdt, zdf, zb2_p, zbp_0, zbp_1, zbp_inj, zbp_01, Bool.true_eq_false, Bool.false_eq_true, true_and, and_true, Decidable.not_not, Classical.not_not, implies_true, List.nil_append, List.cons_append, List.append_assoc, Option.some.injEq, Sum.inl.injEq, zSw_c, zSw_n, zc_355]); (try simp only [zi_cs, zi_c0, zii_cs, zii_c0, zl_cs, zl_c0, zll_cs, zll_c0, zr_cs, zr_c0, zrr_cs, zrr_c0, zxs_cs, zxs_c0, zxx_cs, zxx_c0, zfree_c0, zfree_c1, zfree_cs, zfree_cz, zlong_i, zlong_r, zlong_x, zset_0, zset_s, true_and, and_true, Option.some.injEq, Sum.inl.injEq, Sum.inr.injEq, zb2_p, zbp_0, zbp_1, zbp_inj, zbp_01, Nat.zero_add, Nat.reduceAdd, implies_true, List.nil_append, List.cons_append, List.append_assoc, Int.not_lt, Int.not_le, Decidable.not_not, Int.zero_add, Int.reduceLE, Int.reduceLT, Int.reduceEq, Int.reduceNe, Int.reduceAdd, Int.reduceSub, Int.reduceMul, Int.reduceNeg, Int.reduceToNat, Nat.reduceMul, Nat.reduceLT, Nat.reduceEqDiff, and_self, ite_true, ite_false, zx1, zx2, zRecv, List.length_cons, List.length_nil, ne_eq, not_true_eq_false, not_false_eq_true, true_or, or_true, or_false, false_or, and_false, false_and, zf01, zf10, reduceCtorEq, zSw_c, zSw_n, zm_r, zit_T, zit_F, false_implies, true_implies, zc_355])
  refine zif (fun c => ?_) (fun c => ?_)
  · rw [fstN_s (by omega)] at hf
    refine ⟨by ((try simp only [zI_e]); (first | done | omega | skip)), ?_⟩
    refine zCw.use (q_R_deepBy (d := 48) (by decide) (hc.f hF) hh hv (by omega) (by omega)) (by omega) (fun q μ2 e => ?_)
    obtain ⟨rfl, e2⟩ := e
    have hpj : p j ↔ r ≤ dpA Z F A w h v (owL h v A.2.1 + j) (owL v h A.2.1) := by rw [← hp]
    refine ⟨_, rfl, ?_⟩
    refine zif (fun c2 => ?_) (fun c2 => ?_)
    · rw [zit_t (hpj.mpr c2)] at hf
      exact ⟨hf.symm, hF.tr e2⟩
    · rw [zit_f (fun z => c2 (hpj.mp z))] at hf
      exact ⟨zI_s (by omega) (by omega), znx (P := fun j' => [vr 355, vi v, vi h, vi r, vi (owL h v A.2.1), vi (owL v h A.2.1), vi ((j : Int) + 1)] = [vr 355, vi v, vi h, vi r, vi (owL h v A.2.1), vi (owL v h A.2.1), vi j'] ∧ MF μ μ2 ∧ fstN p N 0 = fstN p (N - j') j') (by omega) ⟨rfl, hF.tr e2, hf⟩⟩
  · have e : j = N := by omega
    subst e
    rw [Nat.sub_self] at hf
    exact ⟨hf.symm, hF⟩
theorem q_Ru_shutBy {d : Nat} (hd : 7 ≤ d) {μ : zMem} {Z : Zt} {F : Option (List Cls)} {A : Lg} {w : Int → Int} {v h r : Int} (hc : CTx μ Z F A w) (hv : 0 ≤ v ∧ v ≤ 6) (hh : 0 ≤ h ∧ h ≤ 6) : zSp d 0 0 y_Ru_shutBy zT0 [vr 324, vr 1, vi h, vi v, vi r] μ zT0 (fun q μ' => q = some (vi (shA Z F A w h v r)) ∧ CF w μ μ') := by
  have hd1 := hc.d
  have hw := hc.2.2.2.2.2
  refine zSp.ss [vr 324, vr 1, vi h, vi v, vi r, vx 0, vx 0, vx 0] rfl (w_Ru_shutBy (Nat.le_trans (by decide) hd)) rfl rfl ?_
  (try simp only [zit_e, Bool.and_eq_true, Bool.or_eq_true, Bool.not_eq_true', Bool.and_eq_false_iff, Bool.or_eq_false_iff, Bool.not_eq_false', zbe, zdt, zdf, zb2_p, zbp_0, zbp_1, zbp_inj, zbp_01, Bool.true_eq_false, Bool.false_eq_true, true_and, and_true, Decidable.not_not, Classical.not_not, implies_true, List.nil_append, List.cons_append, List.append_assoc, Option.some.injEq, Sum.inl.injEq, zSw_c, zSw_n]); (try simp only [zit_e, Bool.and_eq_true, Bool.or_eq_true, Bool.not_eq_true', Bool.and_eq_false_iff, Bool.or_eq_false_iff, Bool.not_eq_false', zbe, zdt, zdf, zb2_p, zbp_0, zbp_1, zbp_inj, zbp_01, Bool.true_eq_false, Bool.false_eq_true, true_and, and_true, Decidable.not_not, Classical.not_not, implies_true, List.nil_append, List.cons_append, List.append_assoc, Option.some.injEq, Sum.inl.injEq, zSw_c, zSw_n, zc_324, zc_1, zc_2, f_Le_owed, g_Le_owed]); (try simp only [zi_cs, zi_c0, zii_cs, zii_c0, zl_cs, zl_c0, zll_cs, zll_c0, zr_cs, zr_c0, zrr_cs, zrr_c0, zxs_cs, zxs_c0, zxx_cs, zxx_c0, zfree_c0, zfree_c1, zfree_cs, zfree_cz, zlong_i, zlong_r, zlong_x, zset_0, zset_s, true_and, and_true, Option.some.injEq, Sum.inl.injEq, Sum.inr.injEq, zb2_p, zbp_0, zbp_1, zbp_inj, zbp_01, Nat.zero_add, Nat.reduceAdd, implies_true, List.nil_append, List.cons_append, List.append_assoc, Int.not_lt, Int.not_le, Decidable.not_not, Int.zero_add, Int.reduceLE, Int.reduceLT, Int.reduceEq, Int.reduceNe, Int.reduceAdd, Int.reduceSub, Int.reduceMul, Int.reduceNeg, Int.reduceToNat, Nat.reduceMul, Nat.reduceLT, Nat.reduceEqDiff, and_self, ite_true, ite_false, zx1, zx2, zRecv, List.length_cons, List.length_nil, ne_eq, not_true_eq_false, not_false_eq_true, true_or, or_true, or_false, false_or, and_false, false_and, zf01, zf10, reduceCtorEq, zSw_c, zSw_n, zm_r, zit_T, zit_F, false_implies, true_implies, zc_324, zc_1, zc_2, f_Le_owed, g_Le_owed])
  have b1 := owA (a := h) (b := v) hc.2.1
  have b2 := owA (a := v) (b := h) hc.2.1
  rw [hd1.1]
  unfold shA
  obtain ⟨N, hN⟩ : ∃ N : Nat, N = (owL h v A.2.1).toNat + 1 := ⟨_, rfl⟩
  rw [← hN]
  generalize hp : (fun x => dpA Z F A w h v (owL h v A.2.1 - x) (owL v h A.2.1) < r) = p
  refine ⟨hd1.2.2.2.1, hd1.2.2.2.1, ?_⟩
  refine zLoop.up N (fun j ρ μ1 => ρ = [vr 324, vr 1, vi h, vi v, vi r, vi (owL h v A.2.1), vi (owL v h A.2.1), vi j] ∧ CF w μ μ1 ∧ fstN p N 0 = fstN p (N - j) j) ⟨rfl, CF.rf hw, rfl⟩ ?_
  rintro j ρ μ1 hj ⟨rfl, hF, hf⟩
  (try simp only [zit_e, Bool.and_eq_true, Bool.or_eq_true, Bool.not_eq_true', Bool.and_eq_false_iff, Bool.or_eq_false_iff, Bool.not_eq_false', zbe, zdt, zdf, zb2_p, zbp_0, zbp_1, zbp_inj, zbp_01, Bool.true_eq_false, Bool.false_eq_true, true_and, and_true, Decidable.not_not, Classical.not_not, implies_true, List.nil_append, List.cons_append, List.append_assoc, Option.some.injEq, Sum.inl.injEq, zSw_c, zSw_n]); (try simp only [zit_e, Bool.and_eq_true, Bool.or_eq_true, Bool.not_eq_true', Bool.and_eq_false_iff, Bool.or_eq_false_iff, Bool.not_eq_false', zbe, zdt, zdf, zb2_p, zbp_0, zbp_1, zbp_inj, zbp_01, Bool.true_eq_false, Bool.false_eq_true, true_and, and_true, Decidable.not_not, Classical.not_not, implies_true, List.nil_append, List.cons_append, List.append_assoc, Option.some.injEq, Sum.inl.injEq, zSw_c, zSw_n, zc_324, zc_1, zc_2]); (try simp only [zi_cs, zi_c0, zii_cs, zii_c0, zl_cs, zl_c0, zll_cs, zll_c0, zr_cs, zr_c0, zrr_cs, zrr_c0, zxs_cs, zxs_c0, zxx_cs, zxx_c0, zfree_c0, zfree_c1, zfree_cs, zfree_cz, zlong_i, zlong_r, zlong_x, zset_0, zset_s, true_and, and_true, Option.some.injEq, Sum.inl.injEq, Sum.inr.injEq, zb2_p, zbp_0, zbp_1, zbp_inj, zbp_01, Nat.zero_add, Nat.reduceAdd, implies_true, List.nil_append, List.cons_append, List.append_assoc, Int.not_lt, Int.not_le, Decidable.not_not, Int.zero_add, Int.reduceLE, Int.reduceLT, Int.reduceEq, Int.reduceNe, Int.reduceAdd, Int.reduceSub, Int.reduceMul, Int.reduceNeg, Int.reduceToNat, Nat.reduceMul, Nat.reduceLT, Nat.reduceEqDiff, and_self, ite_true, ite_false, zx1, zx2, zRecv, List.length_cons, List.length_nil, ne_eq, not_true_eq_false, not_false_eq_true, true_or, or_true, or_false, false_or, and_false, false_and, zf01, zf10, reduceCtorEq, zSw_c, zSw_n, zm_r, zit_T, zit_F, false_implies, true_implies, zc_324, zc_1, zc_2])
  refine zif (fun c => ?_) (fun c => ?_)
  · rw [fstN_s (by omega)] at hf
    refine ⟨by ((try simp only [zI_e]); (first | done | omega | skip)), ?_⟩
    refine zCw.use (q_C_depth (d := 6) (by decide) (hc.f hF) hh hv (by omega) (by omega)) (by omega) (fun q μ2 e => ?_)
    obtain ⟨rfl, e2⟩ := e
    have hpj : p j ↔ dpA Z F A w h v (owL h v A.2.1 - j) (owL v h A.2.1) < r := by rw [← hp]
    refine ⟨_, rfl, ?_⟩
    refine zif (fun c2 => ?_) (fun c2 => ?_)
    · rw [zit_t (hpj.mpr c2)] at hf
      exact ⟨hf.symm, hF.tr e2⟩
    · rw [zit_f (fun z => c2 (hpj.mp z))] at hf
      exact ⟨zI_s (by omega) (by omega), znx (P := fun j' => [vr 324, vr 1, vi h, vi v, vi r, vi (owL h v A.2.1), vi (owL v h A.2.1), vi ((j : Int) + 1)] = [vr 324, vr 1, vi h, vi v, vi r, vi (owL h v A.2.1), vi (owL v h A.2.1), vi j'] ∧ CF w μ μ2 ∧ fstN p N 0 = fstN p (N - j') j') (by omega) ⟨rfl, hF.tr e2, hf⟩⟩
  · have e : j = N := by omega
    subst e
    rw [Nat.sub_self] at hf
    exact ⟨hf.symm, hF⟩
theorem q_M_shutBy {d : Nat} (hd : 49 ≤ d) {μ : zMem} {Z : Zt} {F : Option (List Cls)} {A : Lg} {w : Int → Int} {v h r : Int} (hc : MTx μ Z F A w) (hv : 0 ≤ v ∧ v ≤ 6) (hh : 0 ≤ h ∧ h ≤ 6) : zSp d 0 0 y_M_shutBy zT0 [vr 355, vi h, vi v, vi r] μ zT0 (fun q μ' => q = some (vi (shA Z F A w h v r)) ∧ MF μ μ') := by
  have hd1 := hc.d
  refine zSp.ss [vr 355, vi h, vi v, vi r, vx 0, vx 0, vx 0] rfl (w_M_shutBy (Nat.le_trans (by decide) hd)) rfl rfl ?_
  (try simp only [zit_e, Bool.and_eq_true, Bool.or_eq_true, Bool.not_eq_true', Bool.and_eq_false_iff, Bool.or_eq_false_iff, Bool.not_eq_false', zbe, zdt, zdf, zb2_p, zbp_0, zbp_1, zbp_inj, zbp_01, Bool.true_eq_false, Bool.false_eq_true, true_and, and_true, Decidable.not_not, Classical.not_not, implies_true, List.nil_append, List.cons_append, List.append_assoc, Option.some.injEq, Sum.inl.injEq, zSw_c, zSw_n]); (try simp only [zit_e, Bool.and_eq_true, Bool.or_eq_true, Bool.not_eq_true', Bool.and_eq_false_iff, Bool.or_eq_false_iff, Bool.not_eq_false', zbe, zdt, zdf, zb2_p, zbp_0, zbp_1, zbp_inj, zbp_01, Bool.true_eq_false, Bool.false_eq_true, true_and, and_true, Decidable.not_not, Classical.not_not, implies_true, List.nil_append, List.cons_append, List.append_assoc, Option.some.injEq, Sum.inl.injEq, zSw_c, zSw_n, zc_355, f_M_owed, g_M_owed]); (try simp only [zi_cs, zi_c0, zii_cs, zii_c0, zl_cs, zl_c0, zll_cs, zll_c0, zr_cs, zr_c0, zrr_cs, zrr_c0, zxs_cs, zxs_c0, zxx_cs, zxx_c0, zfree_c0, zfree_c1, zfree_cs, zfree_cz, zlong_i, zlong_r, zlong_x, zset_0, zset_s, true_and, and_true, Option.some.injEq, Sum.inl.injEq, Sum.inr.injEq, zb2_p, zbp_0, zbp_1, zbp_inj, zbp_01, Nat.zero_add, Nat.reduceAdd, implies_true, List.nil_append, List.cons_append, List.append_assoc, Int.not_lt, Int.not_le, Decidable.not_not, Int.zero_add, Int.reduceLE, Int.reduceLT, Int.reduceEq, Int.reduceNe, Int.reduceAdd, Int.reduceSub, Int.reduceMul, Int.reduceNeg, Int.reduceToNat, Nat.reduceMul, Nat.reduceLT, Nat.reduceEqDiff, and_self, ite_true, ite_false, zx1, zx2, zRecv, List.length_cons, List.length_nil, ne_eq, not_true_eq_false, not_false_eq_true, true_or, or_true, or_false, false_or, and_false, false_and, zf01, zf10, reduceCtorEq, zSw_c, zSw_n, zm_r, zit_T, zit_F, false_implies, true_implies, zc_355, f_M_owed, g_M_owed])
  have b1 := owA (a := h) (b := v) hc.2.1
  have b2 := owA (a := v) (b := h) hc.2.1
  rw [hd1.1]
  unfold shA
  obtain ⟨N, hN⟩ : ∃ N : Nat, N = (owL h v A.2.1).toNat + 1 := ⟨_, rfl⟩
  rw [← hN]
  generalize hp : (fun x => dpA Z F A w h v (owL h v A.2.1 - x) (owL v h A.2.1) < r) = p
  refine ⟨hd1.2.2.2.1, hd1.2.2.2.1, ?_⟩
  refine zLoop.up N (fun j ρ μ1 => ρ = [vr 355, vi h, vi v, vi r, vi (owL h v A.2.1), vi (owL v h A.2.1), vi j] ∧ MF μ μ1 ∧ fstN p N 0 = fstN p (N - j) j) ⟨rfl, MF.rf, rfl⟩ ?_
  rintro j ρ μ1 hj ⟨rfl, hF, hf⟩
  (try simp only [zit_e, Bool.and_eq_true, Bool.or_eq_true, Bool.not_eq_true', Bool.and_eq_false_iff, Bool.or_eq_false_iff, Bool.not_eq_false', zbe, zdt, zdf, zb2_p, zbp_0, zbp_1, zbp_inj, zbp_01, Bool.true_eq_false, Bool.false_eq_true, true_and, and_true, Decidable.not_not, Classical.not_not, implies_true, List.nil_append, List.cons_append, List.append_assoc, Option.some.injEq, Sum.inl.injEq, zSw_c, zSw_n]); (try simp only [zit_e, Bool.and_eq_true, Bool.or_eq_true, Bool.not_eq_true', Bool.and_eq_false_iff, Bool.or_eq_false_iff, Bool.not_eq_false', zbe, zdt, zdf, zb2_p, zbp_0, zbp_1, zbp_inj, zbp_01, Bool.true_eq_false, Bool.false_eq_true, true_and, and_true, Decidable.not_not, Classical.not_not, implies_true, List.nil_append, List.cons_append, List.append_assoc, Option.some.injEq, Sum.inl.injEq, zSw_c, zSw_n, zc_355]); (try simp only [zi_cs, zi_c0, zii_cs, zii_c0, zl_cs, zl_c0, zll_cs, zll_c0, zr_cs, zr_c0, zrr_cs, zrr_c0, zxs_cs, zxs_c0, zxx_cs, zxx_c0, zfree_c0, zfree_c1, zfree_cs, zfree_cz, zlong_i, zlong_r, zlong_x, zset_0, zset_s, true_and, and_true, Option.some.injEq, Sum.inl.injEq, Sum.inr.injEq, zb2_p, zbp_0, zbp_1, zbp_inj, zbp_01, Nat.zero_add, Nat.reduceAdd, implies_true, List.nil_append, List.cons_append, List.append_assoc, Int.not_lt, Int.not_le, Decidable.not_not, Int.zero_add, Int.reduceLE, Int.reduceLT, Int.reduceEq, Int.reduceNe, Int.reduceAdd, Int.reduceSub, Int.reduceMul, Int.reduceNeg, Int.reduceToNat, Nat.reduceMul, Nat.reduceLT, Nat.reduceEqDiff, and_self, ite_true, ite_false, zx1, zx2, zRecv, List.length_cons, List.length_nil, ne_eq, not_true_eq_false, not_false_eq_true, true_or, or_true, or_false, false_or, and_false, false_and, zf01, zf10, reduceCtorEq, zSw_c, zSw_n, zm_r, zit_T, zit_F, false_implies, true_implies, zc_355])
  refine zif (fun c => ?_) (fun c => ?_)
  · rw [fstN_s (by omega)] at hf
    refine ⟨by ((try simp only [zI_e]); (first | done | omega | skip)), ?_⟩
    refine zCw.use (q_R_deepBy (d := 48) (by decide) (hc.f hF) hh hv (by omega) (by omega)) (by omega) (fun q μ2 e => ?_)
    obtain ⟨rfl, e2⟩ := e
    have hpj : p j ↔ dpA Z F A w h v (owL h v A.2.1 - j) (owL v h A.2.1) < r := by rw [← hp]
    refine ⟨_, rfl, ?_⟩
    refine zif (fun c2 => ?_) (fun c2 => ?_)
    · rw [zit_t (hpj.mpr c2)] at hf
      exact ⟨hf.symm, hF.tr e2⟩
    · rw [zit_f (fun z => c2 (hpj.mp z))] at hf
      exact ⟨zI_s (by omega) (by omega), znx (P := fun j' => [vr 355, vi h, vi v, vi r, vi (owL h v A.2.1), vi (owL v h A.2.1), vi ((j : Int) + 1)] = [vr 355, vi h, vi v, vi r, vi (owL h v A.2.1), vi (owL v h A.2.1), vi j'] ∧ MF μ μ2 ∧ fstN p N 0 = fstN p (N - j') j') (by omega) ⟨rfl, hF.tr e2, hf⟩⟩
  · have e : j = N := by omega
    subst e
    rw [Nat.sub_self] at hf
    exact ⟨hf.symm, hF⟩

