theorem fl_Le_33 : zFl "DebtDoors$Ledger" 33 1 5 := ⟨_, rfl, by decide, (zTb_in 204 (by decide +kernel) (by decide +kernel)), rfl⟩
theorem nk_1_5 : zNk 1 5 = some 0 := rfl
def y_Le_has : zMt := (⟨"DebtDoors$Ledger", "has", "(I)Z"⟩, prog_3_method_3_code, 2, some .boolean)
theorem d_Le_has_0 : decode prog_3_method_3_code 0 = .ok (.iload_n 1, 1) := by decide +kernel
theorem d_Le_has_1 : decode prog_3_method_3_code 1 = .ok (.ifCond .lt 15, 3) := by decide +kernel
theorem d_Le_has_4 : decode prog_3_method_3_code 4 = .ok (.iload_n 1, 1) := by decide +kernel
theorem d_Le_has_5 : decode prog_3_method_3_code 5 = .ok (.aload_n 0, 1) := by decide +kernel
theorem d_Le_has_6 : decode prog_3_method_3_code 6 = .ok (.getfield 33, 3) := by decide +kernel
theorem d_Le_has_9 : decode prog_3_method_3_code 9 = .ok (.if_icmp .ge 7, 3) := by decide +kernel
theorem d_Le_has_12 : decode prog_3_method_3_code 12 = .ok (.iconst 1, 1) := by decide +kernel
theorem d_Le_has_13 : decode prog_3_method_3_code 13 = .ok (.goto 4, 3) := by decide +kernel
theorem d_Le_has_16 : decode prog_3_method_3_code 16 = .ok (.iconst 0, 1) := by decide +kernel
theorem d_Le_has_17 : decode prog_3_method_3_code 17 = .ok (.ireturn, 1) := by decide +kernel
def w_Le_has {d : Nat} (hd : 1 ≤ d) := (show SS ("DebtDoors$Ledger", prog_3_method_3_code, 2) (some .boolean) d 0 0 0 0 _ from (sRz (xE (rTb (rAnd (mm := 4) (rNot (rJ1 (tgt := 16) k_lt (rIn 1 d_Le_has_0 rfl) d_Le_has_1 (by decide))) (rNot (rJ2 (tgt := 16) j_ge (rIn 1 d_Le_has_4 rfl) (rF 5 fl_Le_33 nk_1_5 (rAn 0 d_Le_has_5 rfl) d_Le_has_6 rfl) d_Le_has_9 (by decide)))) (rGoE (p2 := 17) (rI d_Le_has_12 rfl) d_Le_has_13 (by decide)) (rI d_Le_has_16 rfl))) d_Le_has_17 rfl))
theorem fl_Le_15 : zFl "DebtDoors$Ledger" 15 1 1 := ⟨_, rfl, by decide, (zTb_in 185 (by decide +kernel) (by decide +kernel)), rfl⟩
theorem nk_1_1 : zNk 1 1 = none := rfl
theorem fl_Le_18 : zFl "DebtDoors$Ledger" 18 1 2 := ⟨_, rfl, by decide, (zTb_in 190 (by decide +kernel) (by decide +kernel)), rfl⟩
theorem nk_1_2 : zNk 1 2 = none := rfl
theorem fl_Le_21 : zFl "DebtDoors$Ledger" 21 1 3 := ⟨_, rfl, by decide, (zTb_in 195 (by decide +kernel) (by decide +kernel)), rfl⟩
theorem nk_1_3 : zNk 1 3 = none := rfl
def y_Le_owed : zMt := (⟨"DebtDoors$Ledger", "owed", "(II)I"⟩, prog_3_method_4_code, 5, some .int)
theorem d_Le_owed_0 : decode prog_3_method_4_code 0 = .ok (.iconst 0, 1) := by decide +kernel
theorem d_Le_owed_1 : decode prog_3_method_4_code 1 = .ok (.istore_n 3, 1) := by decide +kernel
theorem d_Le_owed_2 : decode prog_3_method_4_code 2 = .ok (.iconst 0, 1) := by decide +kernel
theorem d_Le_owed_3 : decode prog_3_method_4_code 3 = .ok (.istore 4, 2) := by decide +kernel
theorem d_Le_owed_5 : decode prog_3_method_4_code 5 = .ok (.iload 4, 2) := by decide +kernel
theorem d_Le_owed_7 : decode prog_3_method_4_code 7 = .ok (.aload_n 0, 1) := by decide +kernel
theorem d_Le_owed_8 : decode prog_3_method_4_code 8 = .ok (.getfield 33, 3) := by decide +kernel
theorem d_Le_owed_11 : decode prog_3_method_4_code 11 = .ok (.if_icmp .ge 41, 3) := by decide +kernel
theorem d_Le_owed_14 : decode prog_3_method_4_code 14 = .ok (.aload_n 0, 1) := by decide +kernel
theorem d_Le_owed_15 : decode prog_3_method_4_code 15 = .ok (.getfield 15, 3) := by decide +kernel
theorem d_Le_owed_18 : decode prog_3_method_4_code 18 = .ok (.iload 4, 2) := by decide +kernel
theorem d_Le_owed_20 : decode prog_3_method_4_code 20 = .ok (.iaload, 1) := by decide +kernel
theorem d_Le_owed_21 : decode prog_3_method_4_code 21 = .ok (.iload_n 1, 1) := by decide +kernel
theorem d_Le_owed_22 : decode prog_3_method_4_code 22 = .ok (.if_icmp .ne 24, 3) := by decide +kernel
theorem d_Le_owed_25 : decode prog_3_method_4_code 25 = .ok (.aload_n 0, 1) := by decide +kernel
theorem d_Le_owed_26 : decode prog_3_method_4_code 26 = .ok (.getfield 18, 3) := by decide +kernel
theorem d_Le_owed_29 : decode prog_3_method_4_code 29 = .ok (.iload 4, 2) := by decide +kernel
theorem d_Le_owed_31 : decode prog_3_method_4_code 31 = .ok (.iaload, 1) := by decide +kernel
theorem d_Le_owed_32 : decode prog_3_method_4_code 32 = .ok (.iload_n 2, 1) := by decide +kernel
theorem d_Le_owed_33 : decode prog_3_method_4_code 33 = .ok (.if_icmp .ne 13, 3) := by decide +kernel
theorem d_Le_owed_36 : decode prog_3_method_4_code 36 = .ok (.iload_n 3, 1) := by decide +kernel
theorem d_Le_owed_37 : decode prog_3_method_4_code 37 = .ok (.aload_n 0, 1) := by decide +kernel
theorem d_Le_owed_38 : decode prog_3_method_4_code 38 = .ok (.getfield 21, 3) := by decide +kernel
theorem d_Le_owed_41 : decode prog_3_method_4_code 41 = .ok (.iload 4, 2) := by decide +kernel
theorem d_Le_owed_43 : decode prog_3_method_4_code 43 = .ok (.iaload, 1) := by decide +kernel
theorem d_Le_owed_44 : decode prog_3_method_4_code 44 = .ok (.iadd, 1) := by decide +kernel
theorem d_Le_owed_45 : decode prog_3_method_4_code 45 = .ok (.istore_n 3, 1) := by decide +kernel
theorem d_Le_owed_46 : decode prog_3_method_4_code 46 = .ok (.iinc 4 1, 3) := by decide +kernel
theorem d_Le_owed_49 : decode prog_3_method_4_code 49 = .ok (.goto (-44), 3) := by decide +kernel
theorem d_Le_owed_52 : decode prog_3_method_4_code 52 = .ok (.iload_n 3, 1) := by decide +kernel
theorem d_Le_owed_53 : decode prog_3_method_4_code 53 = .ok (.ireturn, 1) := by decide +kernel
def w_Le_owed {d : Nat} (hd : 1 ≤ d) := (show SS ("DebtDoors$Ledger", prog_3_method_4_code, 5) (some .int) d 0 0 0 0 _ from (sS (p1 := 2) (sIn 3 (xE (rI d_Le_owed_0 rfl)) d_Le_owed_1 rfl (by decide)) (sS (p1 := 52) (sS (p1 := 5) (sI (xE (rI d_Le_owed_2 rfl)) d_Le_owed_3 (by decide)) (sLp (ps := 46) (tt := 14) (pn := 52) (p1 := 0) (p2 := 0) (xC (rNot (rJ2 (tgt := 52) j_ge (rIl d_Le_owed_5) (rF 5 fl_Le_33 nk_1_5 (rAn 0 d_Le_owed_7 rfl) d_Le_owed_8 rfl) d_Le_owed_11 (by decide)))) (sIf (pn := 46) (tt := 36) (xC (rAnd (mm := 25) (rNot (rJ2 (tgt := 46) j_ne (rIa (rFr fl_Le_15 nk_1_1 (rAn 0 d_Le_owed_14 rfl) d_Le_owed_15) (rIl d_Le_owed_18) d_Le_owed_20) (rIn 1 d_Le_owed_21 rfl) d_Le_owed_22 (by decide))) (rNot (rJ2 (tgt := 46) j_ne (rIa (rFr fl_Le_18 nk_1_2 (rAn 0 d_Le_owed_25 rfl) d_Le_owed_26) (rIl d_Le_owed_29) d_Le_owed_31) (rIn 2 d_Le_owed_32 rfl) d_Le_owed_33 (by decide))))) (sIn 3 (xE (r2 o_add (rIn 3 d_Le_owed_36 rfl) (rIa (rFr fl_Le_21 nk_1_3 (rAn 0 d_Le_owed_37 rfl) d_Le_owed_38) (rIl d_Le_owed_41) d_Le_owed_43) d_Le_owed_44)) d_Le_owed_45 rfl (by decide))) (sGo (pn := 5) (sInc d_Le_owed_46 (by decide)) d_Le_owed_49 (by decide)))) (sRi (xE (rIn 3 d_Le_owed_52 rfl)) d_Le_owed_53 rfl))))
theorem fl_Le_9 : zFl "DebtDoors$Ledger" 9 1 0 := ⟨_, rfl, by decide, (zTb_in 180 (by decide +kernel) (by decide +kernel)), rfl⟩
theorem nk_1_0 : zNk 1 0 = none := rfl
def y_Le_canPay : zMt := (⟨"DebtDoors$Ledger", "canPay", "(III)Z"⟩, prog_3_method_9_code, 4, some .boolean)
theorem d_Le_canPay_0 : decode prog_3_method_9_code 0 = .ok (.aload_n 0, 1) := by decide +kernel
theorem d_Le_canPay_1 : decode prog_3_method_9_code 1 = .ok (.getfield 9, 3) := by decide +kernel
theorem d_Le_canPay_4 : decode prog_3_method_9_code 4 = .ok (.iload_n 1, 1) := by decide +kernel
theorem d_Le_canPay_5 : decode prog_3_method_9_code 5 = .ok (.iaload, 1) := by decide +kernel
theorem d_Le_canPay_6 : decode prog_3_method_9_code 6 = .ok (.iload_n 3, 1) := by decide +kernel
theorem d_Le_canPay_7 : decode prog_3_method_9_code 7 = .ok (.if_icmp .lt 21, 3) := by decide +kernel
theorem d_Le_canPay_10 : decode prog_3_method_9_code 10 = .ok (.aload_n 0, 1) := by decide +kernel
theorem d_Le_canPay_11 : decode prog_3_method_9_code 11 = .ok (.getfield 9, 3) := by decide +kernel
theorem d_Le_canPay_14 : decode prog_3_method_9_code 14 = .ok (.iload_n 2, 1) := by decide +kernel
theorem d_Le_canPay_15 : decode prog_3_method_9_code 15 = .ok (.iaload, 1) := by decide +kernel
theorem d_Le_canPay_16 : decode prog_3_method_9_code 16 = .ok (.iload_n 3, 1) := by decide +kernel
theorem d_Le_canPay_17 : decode prog_3_method_9_code 17 = .ok (.iadd, 1) := by decide +kernel
theorem d_Le_canPay_18 : decode prog_3_method_9_code 18 = .ok (.sipush 9999, 3) := by decide +kernel
theorem d_Le_canPay_21 : decode prog_3_method_9_code 21 = .ok (.if_icmp .gt 7, 3) := by decide +kernel
theorem d_Le_canPay_24 : decode prog_3_method_9_code 24 = .ok (.iconst 1, 1) := by decide +kernel
theorem d_Le_canPay_25 : decode prog_3_method_9_code 25 = .ok (.goto 4, 3) := by decide +kernel
theorem d_Le_canPay_28 : decode prog_3_method_9_code 28 = .ok (.iconst 0, 1) := by decide +kernel
theorem d_Le_canPay_29 : decode prog_3_method_9_code 29 = .ok (.ireturn, 1) := by decide +kernel
def w_Le_canPay {d : Nat} (hd : 1 ≤ d) := (show SS ("DebtDoors$Ledger", prog_3_method_9_code, 4) (some .boolean) d 0 0 0 0 _ from (sRz (xE (rTb (rAnd (mm := 10) (rNot (rJ2 (tgt := 28) j_lt (rIa (rFr fl_Le_9 nk_1_0 (rAn 0 d_Le_canPay_0 rfl) d_Le_canPay_1) (rIn 1 d_Le_canPay_4 rfl) d_Le_canPay_5) (rIn 3 d_Le_canPay_6 rfl) d_Le_canPay_7 (by decide))) (rNot (rJ2 (tgt := 28) j_gt (r2 o_add (rIa (rFr fl_Le_9 nk_1_0 (rAn 0 d_Le_canPay_10 rfl) d_Le_canPay_11) (rIn 2 d_Le_canPay_14 rfl) d_Le_canPay_15) (rIn 3 d_Le_canPay_16 rfl) d_Le_canPay_17) (rSi d_Le_canPay_18 rfl) d_Le_canPay_21 (by decide)))) (rGoE (p2 := 29) (rI d_Le_canPay_24 rfl) d_Le_canPay_25 (by decide)) (rI d_Le_canPay_28 rfl))) d_Le_canPay_29 rfl))
def y_Le_pay : zMt := (⟨"DebtDoors$Ledger", "pay", "(III)V"⟩, prog_3_method_10_code, 4, none)
theorem d_Le_pay_0 : decode prog_3_method_10_code 0 = .ok (.aload_n 0, 1) := by decide +kernel
theorem d_Le_pay_1 : decode prog_3_method_10_code 1 = .ok (.getfield 9, 3) := by decide +kernel
theorem d_Le_pay_4 : decode prog_3_method_10_code 4 = .ok (.iload_n 1, 1) := by decide +kernel
theorem d_Le_pay_5 : decode prog_3_method_10_code 5 = .ok (.dup2, 1) := by decide +kernel
theorem d_Le_pay_6 : decode prog_3_method_10_code 6 = .ok (.iaload, 1) := by decide +kernel
theorem d_Le_pay_7 : decode prog_3_method_10_code 7 = .ok (.iload_n 3, 1) := by decide +kernel
theorem d_Le_pay_8 : decode prog_3_method_10_code 8 = .ok (.isub, 1) := by decide +kernel
theorem d_Le_pay_9 : decode prog_3_method_10_code 9 = .ok (.iastore, 1) := by decide +kernel
theorem d_Le_pay_10 : decode prog_3_method_10_code 10 = .ok (.aload_n 0, 1) := by decide +kernel
theorem d_Le_pay_11 : decode prog_3_method_10_code 11 = .ok (.getfield 9, 3) := by decide +kernel
theorem d_Le_pay_14 : decode prog_3_method_10_code 14 = .ok (.iload_n 2, 1) := by decide +kernel
theorem d_Le_pay_15 : decode prog_3_method_10_code 15 = .ok (.dup2, 1) := by decide +kernel
theorem d_Le_pay_16 : decode prog_3_method_10_code 16 = .ok (.iaload, 1) := by decide +kernel
theorem d_Le_pay_17 : decode prog_3_method_10_code 17 = .ok (.iload_n 3, 1) := by decide +kernel
theorem d_Le_pay_18 : decode prog_3_method_10_code 18 = .ok (.iadd, 1) := by decide +kernel
theorem d_Le_pay_19 : decode prog_3_method_10_code 19 = .ok (.iastore, 1) := by decide +kernel
theorem d_Le_pay_20 : decode prog_3_method_10_code 20 = .ok (.return_, 1) := by decide +kernel
def w_Le_pay {d : Nat} (hd : 1 ≤ d) := (show SS ("DebtDoors$Ledger", prog_3_method_10_code, 4) (none) d 0 0 0 0 _ from (sS (p1 := 10) (sAo o_sub (rFr fl_Le_9 nk_1_0 (rAn 0 d_Le_pay_0 rfl) d_Le_pay_1) (rIn 1 d_Le_pay_4 rfl) d_Le_pay_5 d_Le_pay_6 (rIn 3 d_Le_pay_7 rfl) d_Le_pay_8 d_Le_pay_9) (sS (p1 := 20) (sAo o_add (rFr fl_Le_9 nk_1_0 (rAn 0 d_Le_pay_10 rfl) d_Le_pay_11) (rIn 2 d_Le_pay_14 rfl) d_Le_pay_15 d_Le_pay_16 (rIn 3 d_Le_pay_17 rfl) d_Le_pay_18 d_Le_pay_19) (sRv d_Le_pay_20 rfl))))
theorem fl_Le_24 : zFl "DebtDoors$Ledger" 24 1 4 := ⟨_, rfl, by decide, (zTb_in 199 (by decide +kernel) (by decide +kernel)), rfl⟩
theorem nk_1_4 : zNk 1 4 = none := rfl
theorem fl_Le_37 : zFl "DebtDoors$Ledger" 37 1 6 := ⟨_, rfl, by decide, (zTb_in 206 (by decide +kernel) (by decide +kernel)), rfl⟩
theorem nk_1_6 : zNk 1 6 = some 0 := rfl
theorem fp_1_5 : zFp 1 5 0 := ⟨_, rfl, rfl, rfl, by decide⟩
def y_Le_add : zMt := (⟨"DebtDoors$Ledger", "add", "(III)V"⟩, prog_3_method_6_code, 4, none)
theorem d_Le_add_0 : decode prog_3_method_6_code 0 = .ok (.aload_n 0, 1) := by decide +kernel
theorem d_Le_add_1 : decode prog_3_method_6_code 1 = .ok (.getfield 33, 3) := by decide +kernel
theorem d_Le_add_4 : decode prog_3_method_6_code 4 = .ok (.bipush 16, 2) := by decide +kernel
theorem d_Le_add_6 : decode prog_3_method_6_code 6 = .ok (.if_icmp .lt 4, 3) := by decide +kernel
theorem d_Le_add_9 : decode prog_3_method_6_code 9 = .ok (.return_, 1) := by decide +kernel
theorem d_Le_add_10 : decode prog_3_method_6_code 10 = .ok (.aload_n 0, 1) := by decide +kernel
theorem d_Le_add_11 : decode prog_3_method_6_code 11 = .ok (.getfield 15, 3) := by decide +kernel
theorem d_Le_add_14 : decode prog_3_method_6_code 14 = .ok (.aload_n 0, 1) := by decide +kernel
theorem d_Le_add_15 : decode prog_3_method_6_code 15 = .ok (.getfield 33, 3) := by decide +kernel
theorem d_Le_add_18 : decode prog_3_method_6_code 18 = .ok (.iload_n 1, 1) := by decide +kernel
theorem d_Le_add_19 : decode prog_3_method_6_code 19 = .ok (.iastore, 1) := by decide +kernel
theorem d_Le_add_20 : decode prog_3_method_6_code 20 = .ok (.aload_n 0, 1) := by decide +kernel
theorem d_Le_add_21 : decode prog_3_method_6_code 21 = .ok (.getfield 18, 3) := by decide +kernel
theorem d_Le_add_24 : decode prog_3_method_6_code 24 = .ok (.aload_n 0, 1) := by decide +kernel
theorem d_Le_add_25 : decode prog_3_method_6_code 25 = .ok (.getfield 33, 3) := by decide +kernel
theorem d_Le_add_28 : decode prog_3_method_6_code 28 = .ok (.iload_n 2, 1) := by decide +kernel
theorem d_Le_add_29 : decode prog_3_method_6_code 29 = .ok (.iastore, 1) := by decide +kernel
theorem d_Le_add_30 : decode prog_3_method_6_code 30 = .ok (.aload_n 0, 1) := by decide +kernel
theorem d_Le_add_31 : decode prog_3_method_6_code 31 = .ok (.getfield 21, 3) := by decide +kernel
theorem d_Le_add_34 : decode prog_3_method_6_code 34 = .ok (.aload_n 0, 1) := by decide +kernel
theorem d_Le_add_35 : decode prog_3_method_6_code 35 = .ok (.getfield 33, 3) := by decide +kernel
theorem d_Le_add_38 : decode prog_3_method_6_code 38 = .ok (.iload_n 3, 1) := by decide +kernel
theorem d_Le_add_39 : decode prog_3_method_6_code 39 = .ok (.iastore, 1) := by decide +kernel
theorem d_Le_add_40 : decode prog_3_method_6_code 40 = .ok (.aload_n 0, 1) := by decide +kernel
theorem d_Le_add_41 : decode prog_3_method_6_code 41 = .ok (.getfield 24, 3) := by decide +kernel
theorem d_Le_add_44 : decode prog_3_method_6_code 44 = .ok (.aload_n 0, 1) := by decide +kernel
theorem d_Le_add_45 : decode prog_3_method_6_code 45 = .ok (.getfield 33, 3) := by decide +kernel
theorem d_Le_add_48 : decode prog_3_method_6_code 48 = .ok (.aload_n 0, 1) := by decide +kernel
theorem d_Le_add_49 : decode prog_3_method_6_code 49 = .ok (.getfield 37, 3) := by decide +kernel
theorem d_Le_add_52 : decode prog_3_method_6_code 52 = .ok (.iastore, 1) := by decide +kernel
theorem d_Le_add_53 : decode prog_3_method_6_code 53 = .ok (.aload_n 0, 1) := by decide +kernel
theorem d_Le_add_54 : decode prog_3_method_6_code 54 = .ok (.dup, 1) := by decide +kernel
theorem d_Le_add_55 : decode prog_3_method_6_code 55 = .ok (.getfield 33, 3) := by decide +kernel
theorem d_Le_add_58 : decode prog_3_method_6_code 58 = .ok (.iconst 1, 1) := by decide +kernel
theorem d_Le_add_59 : decode prog_3_method_6_code 59 = .ok (.iadd, 1) := by decide +kernel
theorem d_Le_add_60 : decode prog_3_method_6_code 60 = .ok (.putfield 33, 3) := by decide +kernel
theorem d_Le_add_63 : decode prog_3_method_6_code 63 = .ok (.return_, 1) := by decide +kernel
def w_Le_add {d : Nat} (hd : 1 ≤ d) := (show SS ("DebtDoors$Ledger", prog_3_method_6_code, 4) (none) d 0 0 0 0 _ from (sS (p1 := 10) (sIf (pn := 10) (tt := 9) (xC (rNot (rJ2 (tgt := 10) j_lt (rF 5 fl_Le_33 nk_1_5 (rAn 0 d_Le_add_0 rfl) d_Le_add_1 rfl) (rB d_Le_add_4 rfl) d_Le_add_6 (by decide)))) (sRv d_Le_add_9 rfl)) (sS (p1 := 20) (sAs (rFr fl_Le_15 nk_1_1 (rAn 0 d_Le_add_10 rfl) d_Le_add_11) (rF 5 fl_Le_33 nk_1_5 (rAn 0 d_Le_add_14 rfl) d_Le_add_15 rfl) (xE (rIn 1 d_Le_add_18 rfl)) d_Le_add_19) (sS (p1 := 30) (sAs (rFr fl_Le_18 nk_1_2 (rAn 0 d_Le_add_20 rfl) d_Le_add_21) (rF 5 fl_Le_33 nk_1_5 (rAn 0 d_Le_add_24 rfl) d_Le_add_25 rfl) (xE (rIn 2 d_Le_add_28 rfl)) d_Le_add_29) (sS (p1 := 40) (sAs (rFr fl_Le_21 nk_1_3 (rAn 0 d_Le_add_30 rfl) d_Le_add_31) (rF 5 fl_Le_33 nk_1_5 (rAn 0 d_Le_add_34 rfl) d_Le_add_35 rfl) (xE (rIn 3 d_Le_add_38 rfl)) d_Le_add_39) (sS (p1 := 53) (sAs (rFr fl_Le_24 nk_1_4 (rAn 0 d_Le_add_40 rfl) d_Le_add_41) (rF 5 fl_Le_33 nk_1_5 (rAn 0 d_Le_add_44 rfl) d_Le_add_45 rfl) (xE (rF 6 fl_Le_37 nk_1_6 (rAn 0 d_Le_add_48 rfl) d_Le_add_49 rfl)) d_Le_add_52) (sS (p1 := 63) (sPo 5 o_add fl_Le_33 fp_1_5 nk_1_5 (rAn 0 d_Le_add_53 rfl) d_Le_add_54 d_Le_add_55 (rI d_Le_add_58 rfl) d_Le_add_59 d_Le_add_60 rfl) (sRv d_Le_add_63 rfl))))))))
def y_Le_balanceOf : zMt := (⟨"DebtDoors$Ledger", "balanceOf", "(I)I"⟩, prog_3_method_5_code, 4, some .int)
theorem d_Le_balanceOf_0 : decode prog_3_method_5_code 0 = .ok (.iconst 0, 1) := by decide +kernel
theorem d_Le_balanceOf_1 : decode prog_3_method_5_code 1 = .ok (.istore_n 2, 1) := by decide +kernel
theorem d_Le_balanceOf_2 : decode prog_3_method_5_code 2 = .ok (.iconst 0, 1) := by decide +kernel
theorem d_Le_balanceOf_3 : decode prog_3_method_5_code 3 = .ok (.istore_n 3, 1) := by decide +kernel
theorem d_Le_balanceOf_4 : decode prog_3_method_5_code 4 = .ok (.iload_n 3, 1) := by decide +kernel
theorem d_Le_balanceOf_5 : decode prog_3_method_5_code 5 = .ok (.aload_n 0, 1) := by decide +kernel
theorem d_Le_balanceOf_6 : decode prog_3_method_5_code 6 = .ok (.getfield 33, 3) := by decide +kernel
theorem d_Le_balanceOf_9 : decode prog_3_method_5_code 9 = .ok (.if_icmp .ge 50, 3) := by decide +kernel
theorem d_Le_balanceOf_12 : decode prog_3_method_5_code 12 = .ok (.aload_n 0, 1) := by decide +kernel
theorem d_Le_balanceOf_13 : decode prog_3_method_5_code 13 = .ok (.getfield 18, 3) := by decide +kernel
theorem d_Le_balanceOf_16 : decode prog_3_method_5_code 16 = .ok (.iload_n 3, 1) := by decide +kernel
theorem d_Le_balanceOf_17 : decode prog_3_method_5_code 17 = .ok (.iaload, 1) := by decide +kernel
theorem d_Le_balanceOf_18 : decode prog_3_method_5_code 18 = .ok (.iload_n 1, 1) := by decide +kernel
theorem d_Le_balanceOf_19 : decode prog_3_method_5_code 19 = .ok (.if_icmp .ne 15, 3) := by decide +kernel
theorem d_Le_balanceOf_22 : decode prog_3_method_5_code 22 = .ok (.iload_n 2, 1) := by decide +kernel
theorem d_Le_balanceOf_23 : decode prog_3_method_5_code 23 = .ok (.aload_n 0, 1) := by decide +kernel
theorem d_Le_balanceOf_24 : decode prog_3_method_5_code 24 = .ok (.getfield 21, 3) := by decide +kernel
theorem d_Le_balanceOf_27 : decode prog_3_method_5_code 27 = .ok (.iload_n 3, 1) := by decide +kernel
theorem d_Le_balanceOf_28 : decode prog_3_method_5_code 28 = .ok (.iaload, 1) := by decide +kernel
theorem d_Le_balanceOf_29 : decode prog_3_method_5_code 29 = .ok (.iadd, 1) := by decide +kernel
theorem d_Le_balanceOf_30 : decode prog_3_method_5_code 30 = .ok (.istore_n 2, 1) := by decide +kernel
theorem d_Le_balanceOf_31 : decode prog_3_method_5_code 31 = .ok (.goto 22, 3) := by decide +kernel
theorem d_Le_balanceOf_34 : decode prog_3_method_5_code 34 = .ok (.aload_n 0, 1) := by decide +kernel
theorem d_Le_balanceOf_35 : decode prog_3_method_5_code 35 = .ok (.getfield 15, 3) := by decide +kernel
theorem d_Le_balanceOf_38 : decode prog_3_method_5_code 38 = .ok (.iload_n 3, 1) := by decide +kernel
theorem d_Le_balanceOf_39 : decode prog_3_method_5_code 39 = .ok (.iaload, 1) := by decide +kernel
theorem d_Le_balanceOf_40 : decode prog_3_method_5_code 40 = .ok (.iload_n 1, 1) := by decide +kernel
theorem d_Le_balanceOf_41 : decode prog_3_method_5_code 41 = .ok (.if_icmp .ne 12, 3) := by decide +kernel
theorem d_Le_balanceOf_44 : decode prog_3_method_5_code 44 = .ok (.iload_n 2, 1) := by decide +kernel
theorem d_Le_balanceOf_45 : decode prog_3_method_5_code 45 = .ok (.aload_n 0, 1) := by decide +kernel
theorem d_Le_balanceOf_46 : decode prog_3_method_5_code 46 = .ok (.getfield 21, 3) := by decide +kernel
theorem d_Le_balanceOf_49 : decode prog_3_method_5_code 49 = .ok (.iload_n 3, 1) := by decide +kernel
theorem d_Le_balanceOf_50 : decode prog_3_method_5_code 50 = .ok (.iaload, 1) := by decide +kernel
theorem d_Le_balanceOf_51 : decode prog_3_method_5_code 51 = .ok (.isub, 1) := by decide +kernel
theorem d_Le_balanceOf_52 : decode prog_3_method_5_code 52 = .ok (.istore_n 2, 1) := by decide +kernel
theorem d_Le_balanceOf_53 : decode prog_3_method_5_code 53 = .ok (.iinc 3 1, 3) := by decide +kernel
theorem d_Le_balanceOf_56 : decode prog_3_method_5_code 56 = .ok (.goto (-52), 3) := by decide +kernel
theorem d_Le_balanceOf_59 : decode prog_3_method_5_code 59 = .ok (.iload_n 2, 1) := by decide +kernel
theorem d_Le_balanceOf_60 : decode prog_3_method_5_code 60 = .ok (.ireturn, 1) := by decide +kernel
def w_Le_balanceOf {d : Nat} (hd : 1 ≤ d) := (show SS ("DebtDoors$Ledger", prog_3_method_5_code, 4) (some .int) d 0 0 0 0 _ from (sS (p1 := 2) (sIn 2 (xE (rI d_Le_balanceOf_0 rfl)) d_Le_balanceOf_1 rfl (by decide)) (sS (p1 := 59) (sS (p1 := 4) (sIn 3 (xE (rI d_Le_balanceOf_2 rfl)) d_Le_balanceOf_3 rfl (by decide)) (sLp (ps := 53) (tt := 12) (pn := 59) (p1 := 0) (p2 := 0) (xC (rNot (rJ2 (tgt := 59) j_ge (rIn 3 d_Le_balanceOf_4 rfl) (rF 5 fl_Le_33 nk_1_5 (rAn 0 d_Le_balanceOf_5 rfl) d_Le_balanceOf_6 rfl) d_Le_balanceOf_9 (by decide)))) (sIe (pn := 53) (tt := 22) (ff := 34) (xC (rNot (rJ2 (tgt := 34) j_ne (rIa (rFr fl_Le_18 nk_1_2 (rAn 0 d_Le_balanceOf_12 rfl) d_Le_balanceOf_13) (rIn 3 d_Le_balanceOf_16 rfl) d_Le_balanceOf_17) (rIn 1 d_Le_balanceOf_18 rfl) d_Le_balanceOf_19 (by decide)))) (sGo (pn := 53) (sIn 2 (xE (r2 o_add (rIn 2 d_Le_balanceOf_22 rfl) (rIa (rFr fl_Le_21 nk_1_3 (rAn 0 d_Le_balanceOf_23 rfl) d_Le_balanceOf_24) (rIn 3 d_Le_balanceOf_27 rfl) d_Le_balanceOf_28) d_Le_balanceOf_29)) d_Le_balanceOf_30 rfl (by decide)) d_Le_balanceOf_31 (by decide)) (sIf (pn := 53) (tt := 44) (xC (rNot (rJ2 (tgt := 53) j_ne (rIa (rFr fl_Le_15 nk_1_1 (rAn 0 d_Le_balanceOf_34 rfl) d_Le_balanceOf_35) (rIn 3 d_Le_balanceOf_38 rfl) d_Le_balanceOf_39) (rIn 1 d_Le_balanceOf_40 rfl) d_Le_balanceOf_41 (by decide)))) (sIn 2 (xE (r2 o_sub (rIn 2 d_Le_balanceOf_44 rfl) (rIa (rFr fl_Le_21 nk_1_3 (rAn 0 d_Le_balanceOf_45 rfl) d_Le_balanceOf_46) (rIn 3 d_Le_balanceOf_49 rfl) d_Le_balanceOf_50) d_Le_balanceOf_51)) d_Le_balanceOf_52 rfl (by decide)))) (sGo (pn := 4) (sInc d_Le_balanceOf_53 (by decide)) d_Le_balanceOf_56 (by decide)))) (sRi (xE (rIn 2 d_Le_balanceOf_59 rfl)) d_Le_balanceOf_60 rfl))))
def y_Le_dropPaid : zMt := (⟨"DebtDoors$Ledger", "dropPaid", "()V"⟩, prog_3_method_8_code, 3, none)
theorem d_Le_dropPaid_0 : decode prog_3_method_8_code 0 = .ok (.iconst 0, 1) := by decide +kernel
theorem d_Le_dropPaid_1 : decode prog_3_method_8_code 1 = .ok (.istore_n 1, 1) := by decide +kernel
theorem d_Le_dropPaid_2 : decode prog_3_method_8_code 2 = .ok (.iconst 0, 1) := by decide +kernel
theorem d_Le_dropPaid_3 : decode prog_3_method_8_code 3 = .ok (.istore_n 2, 1) := by decide +kernel
theorem d_Le_dropPaid_4 : decode prog_3_method_8_code 4 = .ok (.iload_n 2, 1) := by decide +kernel
theorem d_Le_dropPaid_5 : decode prog_3_method_8_code 5 = .ok (.aload_n 0, 1) := by decide +kernel
theorem d_Le_dropPaid_6 : decode prog_3_method_8_code 6 = .ok (.getfield 33, 3) := by decide +kernel
theorem d_Le_dropPaid_9 : decode prog_3_method_8_code 9 = .ok (.if_icmp .ge 69, 3) := by decide +kernel
theorem d_Le_dropPaid_12 : decode prog_3_method_8_code 12 = .ok (.aload_n 0, 1) := by decide +kernel
theorem d_Le_dropPaid_13 : decode prog_3_method_8_code 13 = .ok (.getfield 21, 3) := by decide +kernel
theorem d_Le_dropPaid_16 : decode prog_3_method_8_code 16 = .ok (.iload_n 2, 1) := by decide +kernel
theorem d_Le_dropPaid_17 : decode prog_3_method_8_code 17 = .ok (.iaload, 1) := by decide +kernel
theorem d_Le_dropPaid_18 : decode prog_3_method_8_code 18 = .ok (.ifCond .le 54, 3) := by decide +kernel
theorem d_Le_dropPaid_21 : decode prog_3_method_8_code 21 = .ok (.aload_n 0, 1) := by decide +kernel
theorem d_Le_dropPaid_22 : decode prog_3_method_8_code 22 = .ok (.getfield 15, 3) := by decide +kernel
theorem d_Le_dropPaid_25 : decode prog_3_method_8_code 25 = .ok (.iload_n 1, 1) := by decide +kernel
theorem d_Le_dropPaid_26 : decode prog_3_method_8_code 26 = .ok (.aload_n 0, 1) := by decide +kernel
theorem d_Le_dropPaid_27 : decode prog_3_method_8_code 27 = .ok (.getfield 15, 3) := by decide +kernel
theorem d_Le_dropPaid_30 : decode prog_3_method_8_code 30 = .ok (.iload_n 2, 1) := by decide +kernel
theorem d_Le_dropPaid_31 : decode prog_3_method_8_code 31 = .ok (.iaload, 1) := by decide +kernel
theorem d_Le_dropPaid_32 : decode prog_3_method_8_code 32 = .ok (.iastore, 1) := by decide +kernel
theorem d_Le_dropPaid_33 : decode prog_3_method_8_code 33 = .ok (.aload_n 0, 1) := by decide +kernel
theorem d_Le_dropPaid_34 : decode prog_3_method_8_code 34 = .ok (.getfield 18, 3) := by decide +kernel
theorem d_Le_dropPaid_37 : decode prog_3_method_8_code 37 = .ok (.iload_n 1, 1) := by decide +kernel
theorem d_Le_dropPaid_38 : decode prog_3_method_8_code 38 = .ok (.aload_n 0, 1) := by decide +kernel
theorem d_Le_dropPaid_39 : decode prog_3_method_8_code 39 = .ok (.getfield 18, 3) := by decide +kernel
theorem d_Le_dropPaid_42 : decode prog_3_method_8_code 42 = .ok (.iload_n 2, 1) := by decide +kernel
theorem d_Le_dropPaid_43 : decode prog_3_method_8_code 43 = .ok (.iaload, 1) := by decide +kernel
theorem d_Le_dropPaid_44 : decode prog_3_method_8_code 44 = .ok (.iastore, 1) := by decide +kernel
theorem d_Le_dropPaid_45 : decode prog_3_method_8_code 45 = .ok (.aload_n 0, 1) := by decide +kernel
theorem d_Le_dropPaid_46 : decode prog_3_method_8_code 46 = .ok (.getfield 21, 3) := by decide +kernel
theorem d_Le_dropPaid_49 : decode prog_3_method_8_code 49 = .ok (.iload_n 1, 1) := by decide +kernel
theorem d_Le_dropPaid_50 : decode prog_3_method_8_code 50 = .ok (.aload_n 0, 1) := by decide +kernel
theorem d_Le_dropPaid_51 : decode prog_3_method_8_code 51 = .ok (.getfield 21, 3) := by decide +kernel
theorem d_Le_dropPaid_54 : decode prog_3_method_8_code 54 = .ok (.iload_n 2, 1) := by decide +kernel
theorem d_Le_dropPaid_55 : decode prog_3_method_8_code 55 = .ok (.iaload, 1) := by decide +kernel
theorem d_Le_dropPaid_56 : decode prog_3_method_8_code 56 = .ok (.iastore, 1) := by decide +kernel
theorem d_Le_dropPaid_57 : decode prog_3_method_8_code 57 = .ok (.aload_n 0, 1) := by decide +kernel
theorem d_Le_dropPaid_58 : decode prog_3_method_8_code 58 = .ok (.getfield 24, 3) := by decide +kernel
theorem d_Le_dropPaid_61 : decode prog_3_method_8_code 61 = .ok (.iload_n 1, 1) := by decide +kernel
theorem d_Le_dropPaid_62 : decode prog_3_method_8_code 62 = .ok (.aload_n 0, 1) := by decide +kernel
theorem d_Le_dropPaid_63 : decode prog_3_method_8_code 63 = .ok (.getfield 24, 3) := by decide +kernel
theorem d_Le_dropPaid_66 : decode prog_3_method_8_code 66 = .ok (.iload_n 2, 1) := by decide +kernel
theorem d_Le_dropPaid_67 : decode prog_3_method_8_code 67 = .ok (.iaload, 1) := by decide +kernel
theorem d_Le_dropPaid_68 : decode prog_3_method_8_code 68 = .ok (.iastore, 1) := by decide +kernel
theorem d_Le_dropPaid_69 : decode prog_3_method_8_code 69 = .ok (.iinc 1 1, 3) := by decide +kernel
theorem d_Le_dropPaid_72 : decode prog_3_method_8_code 72 = .ok (.iinc 2 1, 3) := by decide +kernel
theorem d_Le_dropPaid_75 : decode prog_3_method_8_code 75 = .ok (.goto (-71), 3) := by decide +kernel
theorem d_Le_dropPaid_78 : decode prog_3_method_8_code 78 = .ok (.aload_n 0, 1) := by decide +kernel
theorem d_Le_dropPaid_79 : decode prog_3_method_8_code 79 = .ok (.iload_n 1, 1) := by decide +kernel
theorem d_Le_dropPaid_80 : decode prog_3_method_8_code 80 = .ok (.putfield 33, 3) := by decide +kernel
theorem d_Le_dropPaid_83 : decode prog_3_method_8_code 83 = .ok (.return_, 1) := by decide +kernel
def w_Le_dropPaid {d : Nat} (hd : 1 ≤ d) := (show SS ("DebtDoors$Ledger", prog_3_method_8_code, 3) (none) d 0 0 0 0 _ from (sS (p1 := 2) (sIn 1 (xE (rI d_Le_dropPaid_0 rfl)) d_Le_dropPaid_1 rfl (by decide)) (sS (p1 := 78) (sS (p1 := 4) (sIn 2 (xE (rI d_Le_dropPaid_2 rfl)) d_Le_dropPaid_3 rfl (by decide)) (sLp (ps := 72) (tt := 12) (pn := 78) (p1 := 0) (p2 := 0) (xC (rNot (rJ2 (tgt := 78) j_ge (rIn 2 d_Le_dropPaid_4 rfl) (rF 5 fl_Le_33 nk_1_5 (rAn 0 d_Le_dropPaid_5 rfl) d_Le_dropPaid_6 rfl) d_Le_dropPaid_9 (by decide)))) (sIf (pn := 72) (tt := 21) (xC (rNot (rJ1 (tgt := 72) k_le (rIa (rFr fl_Le_21 nk_1_3 (rAn 0 d_Le_dropPaid_12 rfl) d_Le_dropPaid_13) (rIn 2 d_Le_dropPaid_16 rfl) d_Le_dropPaid_17) d_Le_dropPaid_18 (by decide)))) (sS (p1 := 33) (sAs (rFr fl_Le_15 nk_1_1 (rAn 0 d_Le_dropPaid_21 rfl) d_Le_dropPaid_22) (rIn 1 d_Le_dropPaid_25 rfl) (xE (rIa (rFr fl_Le_15 nk_1_1 (rAn 0 d_Le_dropPaid_26 rfl) d_Le_dropPaid_27) (rIn 2 d_Le_dropPaid_30 rfl) d_Le_dropPaid_31)) d_Le_dropPaid_32) (sS (p1 := 45) (sAs (rFr fl_Le_18 nk_1_2 (rAn 0 d_Le_dropPaid_33 rfl) d_Le_dropPaid_34) (rIn 1 d_Le_dropPaid_37 rfl) (xE (rIa (rFr fl_Le_18 nk_1_2 (rAn 0 d_Le_dropPaid_38 rfl) d_Le_dropPaid_39) (rIn 2 d_Le_dropPaid_42 rfl) d_Le_dropPaid_43)) d_Le_dropPaid_44) (sS (p1 := 57) (sAs (rFr fl_Le_21 nk_1_3 (rAn 0 d_Le_dropPaid_45 rfl) d_Le_dropPaid_46) (rIn 1 d_Le_dropPaid_49 rfl) (xE (rIa (rFr fl_Le_21 nk_1_3 (rAn 0 d_Le_dropPaid_50 rfl) d_Le_dropPaid_51) (rIn 2 d_Le_dropPaid_54 rfl) d_Le_dropPaid_55)) d_Le_dropPaid_56) (sS (p1 := 69) (sAs (rFr fl_Le_24 nk_1_4 (rAn 0 d_Le_dropPaid_57 rfl) d_Le_dropPaid_58) (rIn 1 d_Le_dropPaid_61 rfl) (xE (rIa (rFr fl_Le_24 nk_1_4 (rAn 0 d_Le_dropPaid_62 rfl) d_Le_dropPaid_63) (rIn 2 d_Le_dropPaid_66 rfl) d_Le_dropPaid_67)) d_Le_dropPaid_68) (sInc d_Le_dropPaid_69 (by decide))))))) (sGo (pn := 4) (sInc d_Le_dropPaid_72 (by decide)) d_Le_dropPaid_75 (by decide)))) (sS (p1 := 83) (sP 5 fl_Le_33 fp_1_5 nk_1_5 (rAn 0 d_Le_dropPaid_78 rfl) (xE (rIn 1 d_Le_dropPaid_79 rfl)) d_Le_dropPaid_80 rfl) (sRv d_Le_dropPaid_83 rfl)))))
theorem km_Le_40 : Cond.methodLink "DebtDoors$Ledger" 40 Lib.Math.min.name ∈ zTb := (zTb_in 970 (by decide +kernel) (by decide +kernel))
theorem m_Le_dropPaid : Cond.instanceMethod y_Le_dropPaid.1 ∈ zTb ∧ Cond.selects y_Le_dropPaid.1.cls y_Le_dropPaid.1 y_Le_dropPaid.1 ∈ zTb ∧ Cond.initialized y_Le_dropPaid.1.cls ∈ zTb ∧ Cond.code y_Le_dropPaid.1 y_Le_dropPaid.2.1 y_Le_dropPaid.2.2.1 y_Le_dropPaid.2.2.2 ∈ zTb ∧ (y_Le_dropPaid.1.cls ≠ "java/lang/invoke/MethodHandle" ∧ y_Le_dropPaid.1.cls ≠ "java/lang/invoke/VarHandle" ∧ (parseMethodDescriptor y_Le_dropPaid.1.desc).map (fun d => d.parameters.length) = some 0) ∧ y_Le_dropPaid.2.2.1 ≤ 20 :=
  ⟨(zTb_in 972 (by decide +kernel) (by decide +kernel)), (zTb_in 973 (by decide +kernel) (by decide +kernel)), (zTb_in 142 (by decide +kernel) (by decide +kernel)), (zTb_in 974 (by decide +kernel) (by decide +kernel)), by decide +kernel, by decide +kernel⟩
theorem lv_Le_46 : zLv "DebtDoors$Ledger" 46 y_Le_dropPaid 0 1 := ⟨⟨(zTb_in 971 (by decide +kernel) (by decide +kernel)), m_Le_dropPaid.1, m_Le_dropPaid.2.1, m_Le_dropPaid.2.2⟩, _, rfl, rfl⟩
def y_Le_lessen : zMt := (⟨"DebtDoors$Ledger", "lessen", "(III)V"⟩, prog_3_method_7_code, 7, none)
theorem d_Le_lessen_0 : decode prog_3_method_7_code 0 = .ok (.iload_n 3, 1) := by decide +kernel
theorem d_Le_lessen_1 : decode prog_3_method_7_code 1 = .ok (.istore 4, 2) := by decide +kernel
theorem d_Le_lessen_3 : decode prog_3_method_7_code 3 = .ok (.iconst 0, 1) := by decide +kernel
theorem d_Le_lessen_4 : decode prog_3_method_7_code 4 = .ok (.istore 5, 2) := by decide +kernel
theorem d_Le_lessen_6 : decode prog_3_method_7_code 6 = .ok (.iload 5, 2) := by decide +kernel
theorem d_Le_lessen_8 : decode prog_3_method_7_code 8 = .ok (.aload_n 0, 1) := by decide +kernel
theorem d_Le_lessen_9 : decode prog_3_method_7_code 9 = .ok (.getfield 33, 3) := by decide +kernel
theorem d_Le_lessen_12 : decode prog_3_method_7_code 12 = .ok (.if_icmp .ge 64, 3) := by decide +kernel
theorem d_Le_lessen_15 : decode prog_3_method_7_code 15 = .ok (.aload_n 0, 1) := by decide +kernel
theorem d_Le_lessen_16 : decode prog_3_method_7_code 16 = .ok (.getfield 15, 3) := by decide +kernel
theorem d_Le_lessen_19 : decode prog_3_method_7_code 19 = .ok (.iload 5, 2) := by decide +kernel
theorem d_Le_lessen_21 : decode prog_3_method_7_code 21 = .ok (.iaload, 1) := by decide +kernel
theorem d_Le_lessen_22 : decode prog_3_method_7_code 22 = .ok (.iload_n 1, 1) := by decide +kernel
theorem d_Le_lessen_23 : decode prog_3_method_7_code 23 = .ok (.if_icmp .ne 47, 3) := by decide +kernel
theorem d_Le_lessen_26 : decode prog_3_method_7_code 26 = .ok (.aload_n 0, 1) := by decide +kernel
theorem d_Le_lessen_27 : decode prog_3_method_7_code 27 = .ok (.getfield 18, 3) := by decide +kernel
theorem d_Le_lessen_30 : decode prog_3_method_7_code 30 = .ok (.iload 5, 2) := by decide +kernel
theorem d_Le_lessen_32 : decode prog_3_method_7_code 32 = .ok (.iaload, 1) := by decide +kernel
theorem d_Le_lessen_33 : decode prog_3_method_7_code 33 = .ok (.iload_n 2, 1) := by decide +kernel
theorem d_Le_lessen_34 : decode prog_3_method_7_code 34 = .ok (.if_icmp .ne 36, 3) := by decide +kernel
theorem d_Le_lessen_37 : decode prog_3_method_7_code 37 = .ok (.iload 4, 2) := by decide +kernel
theorem d_Le_lessen_39 : decode prog_3_method_7_code 39 = .ok (.aload_n 0, 1) := by decide +kernel
theorem d_Le_lessen_40 : decode prog_3_method_7_code 40 = .ok (.getfield 21, 3) := by decide +kernel
theorem d_Le_lessen_43 : decode prog_3_method_7_code 43 = .ok (.iload 5, 2) := by decide +kernel
theorem d_Le_lessen_45 : decode prog_3_method_7_code 45 = .ok (.iaload, 1) := by decide +kernel
theorem d_Le_lessen_46 : decode prog_3_method_7_code 46 = .ok (.invokestatic 40, 3) := by decide +kernel
theorem d_Le_lessen_49 : decode prog_3_method_7_code 49 = .ok (.istore 6, 2) := by decide +kernel
theorem d_Le_lessen_51 : decode prog_3_method_7_code 51 = .ok (.aload_n 0, 1) := by decide +kernel
theorem d_Le_lessen_52 : decode prog_3_method_7_code 52 = .ok (.getfield 21, 3) := by decide +kernel
theorem d_Le_lessen_55 : decode prog_3_method_7_code 55 = .ok (.iload 5, 2) := by decide +kernel
theorem d_Le_lessen_57 : decode prog_3_method_7_code 57 = .ok (.dup2, 1) := by decide +kernel
theorem d_Le_lessen_58 : decode prog_3_method_7_code 58 = .ok (.iaload, 1) := by decide +kernel
theorem d_Le_lessen_59 : decode prog_3_method_7_code 59 = .ok (.iload 6, 2) := by decide +kernel
theorem d_Le_lessen_61 : decode prog_3_method_7_code 61 = .ok (.isub, 1) := by decide +kernel
theorem d_Le_lessen_62 : decode prog_3_method_7_code 62 = .ok (.iastore, 1) := by decide +kernel
theorem d_Le_lessen_63 : decode prog_3_method_7_code 63 = .ok (.iload 4, 2) := by decide +kernel
theorem d_Le_lessen_65 : decode prog_3_method_7_code 65 = .ok (.iload 6, 2) := by decide +kernel
theorem d_Le_lessen_67 : decode prog_3_method_7_code 67 = .ok (.isub, 1) := by decide +kernel
theorem d_Le_lessen_68 : decode prog_3_method_7_code 68 = .ok (.istore 4, 2) := by decide +kernel
theorem d_Le_lessen_70 : decode prog_3_method_7_code 70 = .ok (.iinc 5 1, 3) := by decide +kernel
theorem d_Le_lessen_73 : decode prog_3_method_7_code 73 = .ok (.goto (-67), 3) := by decide +kernel
theorem d_Le_lessen_76 : decode prog_3_method_7_code 76 = .ok (.aload_n 0, 1) := by decide +kernel
theorem d_Le_lessen_77 : decode prog_3_method_7_code 77 = .ok (.invokevirtual 46, 3) := by decide +kernel
theorem d_Le_lessen_80 : decode prog_3_method_7_code 80 = .ok (.return_, 1) := by decide +kernel
def w_Le_lessen {d : Nat} (hd : 3 ≤ d) := (show SS ("DebtDoors$Ledger", prog_3_method_7_code, 7) (none) d 0 0 0 0 _ from (sS (p1 := 3) (sI (xE (rIn 3 d_Le_lessen_0 rfl)) d_Le_lessen_1 (by decide)) (sS (p1 := 76) (sS (p1 := 6) (sI (xE (rI d_Le_lessen_3 rfl)) d_Le_lessen_4 (by decide)) (sLp (ps := 70) (tt := 15) (pn := 76) (p1 := 0) (p2 := 0) (xC (rNot (rJ2 (tgt := 76) j_ge (rIl d_Le_lessen_6) (rF 5 fl_Le_33 nk_1_5 (rAn 0 d_Le_lessen_8 rfl) d_Le_lessen_9 rfl) d_Le_lessen_12 (by decide)))) (sIf (pn := 70) (tt := 37) (xC (rAnd (mm := 26) (rNot (rJ2 (tgt := 70) j_ne (rIa (rFr fl_Le_15 nk_1_1 (rAn 0 d_Le_lessen_15 rfl) d_Le_lessen_16) (rIl d_Le_lessen_19) d_Le_lessen_21) (rIn 1 d_Le_lessen_22 rfl) d_Le_lessen_23 (by decide))) (rNot (rJ2 (tgt := 70) j_ne (rIa (rFr fl_Le_18 nk_1_2 (rAn 0 d_Le_lessen_26 rfl) d_Le_lessen_27) (rIl d_Le_lessen_30) d_Le_lessen_32) (rIn 2 d_Le_lessen_33 rfl) d_Le_lessen_34 (by decide))))) (sS (p1 := 51) (sI (xE (rMin km_Le_40 (rIl d_Le_lessen_37) (rIa (rFr fl_Le_21 nk_1_3 (rAn 0 d_Le_lessen_39 rfl) d_Le_lessen_40) (rIl d_Le_lessen_43) d_Le_lessen_45) (by decide) (Nat.le_trans (Nat.le_of_ble_eq_true rfl) hd) d_Le_lessen_46)) d_Le_lessen_49 (by decide)) (sS (p1 := 63) (sAo o_sub (rFr fl_Le_21 nk_1_3 (rAn 0 d_Le_lessen_51 rfl) d_Le_lessen_52) (rIl d_Le_lessen_55) d_Le_lessen_57 d_Le_lessen_58 (rIl d_Le_lessen_59) d_Le_lessen_61 d_Le_lessen_62) (sI (xE (r2 o_sub (rIl d_Le_lessen_63) (rIl d_Le_lessen_65) d_Le_lessen_67)) d_Le_lessen_68 (by decide))))) (sGo (pn := 6) (sInc d_Le_lessen_70 (by decide)) d_Le_lessen_73 (by decide)))) (sS (p1 := 80) (sV (xVv lv_Le_46 (xA (rAr rA0 (rAn 0 d_Le_lessen_76 rfl))) (by decide) d_Le_lessen_77)) (sRv d_Le_lessen_80 rfl)))))
theorem ka_Le_27 : Cond.methodLink "DebtDoors$Ledger" 27 arraycopyName ∈ zTb := (zTb_in 923 (by decide +kernel) (by decide +kernel))
theorem fp_1_6 : zFp 1 6 0 := ⟨_, rfl, rfl, rfl, by decide⟩
def y_Le_copyFrom : zMt := (⟨"DebtDoors$Ledger", "copyFrom", "(LDebtDoors$Ledger;)V"⟩, prog_3_method_2_code, 2, none)
theorem d_Le_copyFrom_0 : decode prog_3_method_2_code 0 = .ok (.aload_n 1, 1) := by decide +kernel
theorem d_Le_copyFrom_1 : decode prog_3_method_2_code 1 = .ok (.getfield 9, 3) := by decide +kernel
theorem d_Le_copyFrom_4 : decode prog_3_method_2_code 4 = .ok (.iconst 0, 1) := by decide +kernel
theorem d_Le_copyFrom_5 : decode prog_3_method_2_code 5 = .ok (.aload_n 0, 1) := by decide +kernel
theorem d_Le_copyFrom_6 : decode prog_3_method_2_code 6 = .ok (.getfield 9, 3) := by decide +kernel
theorem d_Le_copyFrom_9 : decode prog_3_method_2_code 9 = .ok (.iconst 0, 1) := by decide +kernel
theorem d_Le_copyFrom_10 : decode prog_3_method_2_code 10 = .ok (.bipush 7, 2) := by decide +kernel
theorem d_Le_copyFrom_12 : decode prog_3_method_2_code 12 = .ok (.invokestatic 27, 3) := by decide +kernel
theorem d_Le_copyFrom_15 : decode prog_3_method_2_code 15 = .ok (.aload_n 1, 1) := by decide +kernel
theorem d_Le_copyFrom_16 : decode prog_3_method_2_code 16 = .ok (.getfield 15, 3) := by decide +kernel
theorem d_Le_copyFrom_19 : decode prog_3_method_2_code 19 = .ok (.iconst 0, 1) := by decide +kernel
theorem d_Le_copyFrom_20 : decode prog_3_method_2_code 20 = .ok (.aload_n 0, 1) := by decide +kernel
theorem d_Le_copyFrom_21 : decode prog_3_method_2_code 21 = .ok (.getfield 15, 3) := by decide +kernel
theorem d_Le_copyFrom_24 : decode prog_3_method_2_code 24 = .ok (.iconst 0, 1) := by decide +kernel
theorem d_Le_copyFrom_25 : decode prog_3_method_2_code 25 = .ok (.bipush 16, 2) := by decide +kernel
theorem d_Le_copyFrom_27 : decode prog_3_method_2_code 27 = .ok (.invokestatic 27, 3) := by decide +kernel
theorem d_Le_copyFrom_30 : decode prog_3_method_2_code 30 = .ok (.aload_n 1, 1) := by decide +kernel
theorem d_Le_copyFrom_31 : decode prog_3_method_2_code 31 = .ok (.getfield 18, 3) := by decide +kernel
theorem d_Le_copyFrom_34 : decode prog_3_method_2_code 34 = .ok (.iconst 0, 1) := by decide +kernel
theorem d_Le_copyFrom_35 : decode prog_3_method_2_code 35 = .ok (.aload_n 0, 1) := by decide +kernel
theorem d_Le_copyFrom_36 : decode prog_3_method_2_code 36 = .ok (.getfield 18, 3) := by decide +kernel
theorem d_Le_copyFrom_39 : decode prog_3_method_2_code 39 = .ok (.iconst 0, 1) := by decide +kernel
theorem d_Le_copyFrom_40 : decode prog_3_method_2_code 40 = .ok (.bipush 16, 2) := by decide +kernel
theorem d_Le_copyFrom_42 : decode prog_3_method_2_code 42 = .ok (.invokestatic 27, 3) := by decide +kernel
theorem d_Le_copyFrom_45 : decode prog_3_method_2_code 45 = .ok (.aload_n 1, 1) := by decide +kernel
theorem d_Le_copyFrom_46 : decode prog_3_method_2_code 46 = .ok (.getfield 21, 3) := by decide +kernel
theorem d_Le_copyFrom_49 : decode prog_3_method_2_code 49 = .ok (.iconst 0, 1) := by decide +kernel
theorem d_Le_copyFrom_50 : decode prog_3_method_2_code 50 = .ok (.aload_n 0, 1) := by decide +kernel
theorem d_Le_copyFrom_51 : decode prog_3_method_2_code 51 = .ok (.getfield 21, 3) := by decide +kernel
theorem d_Le_copyFrom_54 : decode prog_3_method_2_code 54 = .ok (.iconst 0, 1) := by decide +kernel
theorem d_Le_copyFrom_55 : decode prog_3_method_2_code 55 = .ok (.bipush 16, 2) := by decide +kernel
theorem d_Le_copyFrom_57 : decode prog_3_method_2_code 57 = .ok (.invokestatic 27, 3) := by decide +kernel
theorem d_Le_copyFrom_60 : decode prog_3_method_2_code 60 = .ok (.aload_n 1, 1) := by decide +kernel
theorem d_Le_copyFrom_61 : decode prog_3_method_2_code 61 = .ok (.getfield 24, 3) := by decide +kernel
theorem d_Le_copyFrom_64 : decode prog_3_method_2_code 64 = .ok (.iconst 0, 1) := by decide +kernel
theorem d_Le_copyFrom_65 : decode prog_3_method_2_code 65 = .ok (.aload_n 0, 1) := by decide +kernel
theorem d_Le_copyFrom_66 : decode prog_3_method_2_code 66 = .ok (.getfield 24, 3) := by decide +kernel
theorem d_Le_copyFrom_69 : decode prog_3_method_2_code 69 = .ok (.iconst 0, 1) := by decide +kernel
theorem d_Le_copyFrom_70 : decode prog_3_method_2_code 70 = .ok (.bipush 16, 2) := by decide +kernel
theorem d_Le_copyFrom_72 : decode prog_3_method_2_code 72 = .ok (.invokestatic 27, 3) := by decide +kernel
theorem d_Le_copyFrom_75 : decode prog_3_method_2_code 75 = .ok (.aload_n 0, 1) := by decide +kernel
theorem d_Le_copyFrom_76 : decode prog_3_method_2_code 76 = .ok (.aload_n 1, 1) := by decide +kernel
theorem d_Le_copyFrom_77 : decode prog_3_method_2_code 77 = .ok (.getfield 33, 3) := by decide +kernel
theorem d_Le_copyFrom_80 : decode prog_3_method_2_code 80 = .ok (.putfield 33, 3) := by decide +kernel
theorem d_Le_copyFrom_83 : decode prog_3_method_2_code 83 = .ok (.aload_n 0, 1) := by decide +kernel
theorem d_Le_copyFrom_84 : decode prog_3_method_2_code 84 = .ok (.aload_n 1, 1) := by decide +kernel
theorem d_Le_copyFrom_85 : decode prog_3_method_2_code 85 = .ok (.getfield 37, 3) := by decide +kernel
theorem d_Le_copyFrom_88 : decode prog_3_method_2_code 88 = .ok (.putfield 37, 3) := by decide +kernel
theorem d_Le_copyFrom_91 : decode prog_3_method_2_code 91 = .ok (.return_, 1) := by decide +kernel
def w_Le_copyFrom {d : Nat} (hd : 3 ≤ d) := (show SS ("DebtDoors$Ledger", prog_3_method_2_code, 2) (none) d 0 0 0 0 _ from (sS (p1 := 15) (sCp ka_Le_27 (rFr fl_Le_9 nk_1_0 (rAn 1 d_Le_copyFrom_0 rfl) d_Le_copyFrom_1) (rI d_Le_copyFrom_4 rfl) (rFr fl_Le_9 nk_1_0 (rAn 0 d_Le_copyFrom_5 rfl) d_Le_copyFrom_6) (rI d_Le_copyFrom_9 rfl) (rB d_Le_copyFrom_10 rfl) (Nat.le_trans (Nat.le_of_ble_eq_true rfl) hd) d_Le_copyFrom_12) (sS (p1 := 30) (sCp ka_Le_27 (rFr fl_Le_15 nk_1_1 (rAn 1 d_Le_copyFrom_15 rfl) d_Le_copyFrom_16) (rI d_Le_copyFrom_19 rfl) (rFr fl_Le_15 nk_1_1 (rAn 0 d_Le_copyFrom_20 rfl) d_Le_copyFrom_21) (rI d_Le_copyFrom_24 rfl) (rB d_Le_copyFrom_25 rfl) (Nat.le_trans (Nat.le_of_ble_eq_true rfl) hd) d_Le_copyFrom_27) (sS (p1 := 45) (sCp ka_Le_27 (rFr fl_Le_18 nk_1_2 (rAn 1 d_Le_copyFrom_30 rfl) d_Le_copyFrom_31) (rI d_Le_copyFrom_34 rfl) (rFr fl_Le_18 nk_1_2 (rAn 0 d_Le_copyFrom_35 rfl) d_Le_copyFrom_36) (rI d_Le_copyFrom_39 rfl) (rB d_Le_copyFrom_40 rfl) (Nat.le_trans (Nat.le_of_ble_eq_true rfl) hd) d_Le_copyFrom_42) (sS (p1 := 60) (sCp ka_Le_27 (rFr fl_Le_21 nk_1_3 (rAn 1 d_Le_copyFrom_45 rfl) d_Le_copyFrom_46) (rI d_Le_copyFrom_49 rfl) (rFr fl_Le_21 nk_1_3 (rAn 0 d_Le_copyFrom_50 rfl) d_Le_copyFrom_51) (rI d_Le_copyFrom_54 rfl) (rB d_Le_copyFrom_55 rfl) (Nat.le_trans (Nat.le_of_ble_eq_true rfl) hd) d_Le_copyFrom_57) (sS (p1 := 75) (sCp ka_Le_27 (rFr fl_Le_24 nk_1_4 (rAn 1 d_Le_copyFrom_60 rfl) d_Le_copyFrom_61) (rI d_Le_copyFrom_64 rfl) (rFr fl_Le_24 nk_1_4 (rAn 0 d_Le_copyFrom_65 rfl) d_Le_copyFrom_66) (rI d_Le_copyFrom_69 rfl) (rB d_Le_copyFrom_70 rfl) (Nat.le_trans (Nat.le_of_ble_eq_true rfl) hd) d_Le_copyFrom_72) (sS (p1 := 83) (sP 5 fl_Le_33 fp_1_5 nk_1_5 (rAn 0 d_Le_copyFrom_75 rfl) (xE (rF 5 fl_Le_33 nk_1_5 (rAn 1 d_Le_copyFrom_76 rfl) d_Le_copyFrom_77 rfl)) d_Le_copyFrom_80 rfl) (sS (p1 := 91) (sP 6 fl_Le_37 fp_1_6 nk_1_6 (rAn 0 d_Le_copyFrom_83 rfl) (xE (rF 6 fl_Le_37 nk_1_6 (rAn 1 d_Le_copyFrom_84 rfl) d_Le_copyFrom_85 rfl)) d_Le_copyFrom_88 rfl) (sRv d_Le_copyFrom_91 rfl)))))))))
