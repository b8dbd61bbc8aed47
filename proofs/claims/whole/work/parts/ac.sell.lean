/-! sell -/
theorem dbD_cr {μ : zMem} {i v : Int} (h0 : 0 ≤ i) (h : i < μ 2 5) : dbD (zm μ 5 i v) = (dbD μ).set i.toNat ((fD μ i).1, v, (fD μ i).2.2.1, (fD μ i).2.2.2) := by
  unfold dbD
  rw [zm_off 2 (by decide), tL_set (by omega)]
  refine tL_congr (fun j a b => ?_)
  unfold fD
  rw [zm_off 4 (by decide), zm_off 6 (by decide), zm_off 7 (by decide), show ((i.toNat : Nat) : Int) = i by omega]
  by_cases c : j = i
  · rw [if_pos c, zm_r, zit_t rfl, zit_t c, c]
  · rw [if_neg c, zm_r, zit_t rfl, zit_f c]
theorem dbM_cr {μ : zMem} {i v : Int} (h0 : 0 ≤ i) (h : i < μ 357 71) (hn : μ 357 71 ≤ 16) : dbM (zm μ 357 (7 + 4 * i + 1) v) = (dbM μ).set i.toNat ((fM μ i).1, v, (fM μ i).2.2.1, (fM μ i).2.2.2) := by
  unfold dbM
  rw [tL_set (by omega), show zm μ 357 (7 + 4 * i + 1) v 357 71 = μ 357 71 by rw [zm_r, zit_t rfl, zit_f (by omega)]]
  refine tL_congr (fun k h0 h1 => ?_)
  unfold fM
  simp only [zm_r, zit_T, show ((i.toNat : Nat) : Int) = i by omega]
  by_cases e : k = i
  · rw [if_pos e, zit_f (by omega), zit_t (by omega), zit_f (by omega), zit_f (by omega), e]
  · rw [if_neg e]
    (repeat (first | rw [zit_f (by omega)] | rw [zit_t (by omega)]))
noncomputable def slC0 (Z : Zt) (F : Option (List Cls)) (A : Lg) (w : Int → Int) (k b : Int) : Int := zit (¬ ((0 ≤ k ∧ k < (A.2.1.length : Int)) ∧ 0 ≤ b ∧ b < Z.1)) (-2) (zit ((b = (dbt A k).2.1 ∨ b = (dbt A k).1) ∨ ¬ (odA Z F A w k 2 ≤ puA A b ∧ puA A (dbt A k).2.1 + odA Z F A w k 2 ≤ 9999)) (-3) 0)
noncomputable def sdA (A : Lg) (k b p : Int) : Lg := (mvP (puA A) b (dbt A k).2.1 p, A.2.1.set k.toNat ((dbt A k).1, b, (dbt A k).2.2.1, (dbt A k).2.2.2), A.2.2)
theorem odA_in {Z : Zt} {F : Option (List Cls)} {A : Lg} {w : Int → Int} {k x : Int} (hA : okA A) (h0 : 0 ≤ k) (h1 : k < (A.2.1.length : Int)) : okd (dbt A k) ∧ 0 ≤ odA Z F A w k x ∧ odA Z F A w k x ≤ (if x = 1 then 99 else 9999) := by
  have hx : okd (dbt A k) := by
    refine hA.2.1.2 _ ?_
    unfold dbt gL
    rw [List.getD_eq_getElem?_getD, List.getElem?_eq_getElem (by omega)]
    exact List.getElem_mem _
  have := hx.2.2.2.1
  exact ⟨hx, odS_in (by omega)⟩
theorem sdA_ok {Z : Zt} {F : Option (List Cls)} {A : Lg} {w : Int → Int} {k b : Int} (hZ : okZ Z) (hA : okA A) (h : 0 ≤ slC0 Z F A w k b) : okA (sdA A k b (odA Z F A w k 2)) := by
  unfold slC0 zit at h
  split at h
  · omega
  next c1 =>
  split at h
  · omega
  next c2 =>
  have c1 := Classical.not_not.mp c1
  obtain ⟨x1, x2, x3⟩ := odA_in (Z := Z) (F := F) (w := w) (x := 2) hA c1.1.1 c1.1.2
  have hn := hZ.1
  refine ⟨mvP_ok hA x2 ⟨by omega, x1.2.1⟩ (by omega) (by omega), ⟨?_, fun x hx => ?_⟩, hA.2.2⟩
  · show (A.2.1.set _ _).length ≤ 16
    rw [List.length_set]
    exact hA.2.1.1
  · rcases List.mem_or_eq_of_mem_set hx with hx | rfl
    · exact hA.2.1.2 x hx
    · refine ⟨x1.1, ?_, ?_, x1.2.2.2⟩
      · show 0 ≤ b ∧ b < 7
        omega
      · show (dbt A k).1 ≠ b
        omega
def y_D_sell : zMt := (⟨"DebtDoors", "sell", "(II)I"⟩, prog_1_method_31_code, 6, some .int)
theorem d_D_sell_0 : decode prog_1_method_31_code 0 = .ok (.aload_n 0, 1) := by decide +kernel
theorem d_D_sell_1 : decode prog_1_method_31_code 1 = .ok (.getfield 12, 3) := by decide +kernel
theorem d_D_sell_4 : decode prog_1_method_31_code 4 = .ok (.getfield 115, 3) := by decide +kernel
theorem d_D_sell_7 : decode prog_1_method_31_code 7 = .ok (.astore_n 3, 1) := by decide +kernel
theorem d_D_sell_8 : decode prog_1_method_31_code 8 = .ok (.aload_n 3, 1) := by decide +kernel
theorem d_D_sell_9 : decode prog_1_method_31_code 9 = .ok (.iload_n 1, 1) := by decide +kernel
theorem d_D_sell_10 : decode prog_1_method_31_code 10 = .ok (.invokevirtual 156, 3) := by decide +kernel
theorem d_D_sell_13 : decode prog_1_method_31_code 13 = .ok (.ifCond .eq 14, 3) := by decide +kernel
theorem d_D_sell_16 : decode prog_1_method_31_code 16 = .ok (.aload_n 0, 1) := by decide +kernel
theorem d_D_sell_17 : decode prog_1_method_31_code 17 = .ok (.getfield 12, 3) := by decide +kernel
theorem d_D_sell_20 : decode prog_1_method_31_code 20 = .ok (.iload_n 2, 1) := by decide +kernel
theorem d_D_sell_21 : decode prog_1_method_31_code 21 = .ok (.invokevirtual 137, 3) := by decide +kernel
theorem d_D_sell_24 : decode prog_1_method_31_code 24 = .ok (.ifCond .ne 10, 3) := by decide +kernel
theorem d_D_sell_27 : decode prog_1_method_31_code 27 = .ok (.aload_n 0, 1) := by decide +kernel
theorem d_D_sell_28 : decode prog_1_method_31_code 28 = .ok (.bipush (-2), 2) := by decide +kernel
theorem d_D_sell_30 : decode prog_1_method_31_code 30 = .ok (.invokevirtual 108, 3) := by decide +kernel
theorem d_D_sell_33 : decode prog_1_method_31_code 33 = .ok (.ireturn, 1) := by decide +kernel
theorem d_D_sell_34 : decode prog_1_method_31_code 34 = .ok (.aload_n 3, 1) := by decide +kernel
theorem d_D_sell_35 : decode prog_1_method_31_code 35 = .ok (.getfield 160, 3) := by decide +kernel
theorem d_D_sell_38 : decode prog_1_method_31_code 38 = .ok (.iload_n 1, 1) := by decide +kernel
theorem d_D_sell_39 : decode prog_1_method_31_code 39 = .ok (.iaload, 1) := by decide +kernel
theorem d_D_sell_40 : decode prog_1_method_31_code 40 = .ok (.istore 4, 2) := by decide +kernel
theorem d_D_sell_42 : decode prog_1_method_31_code 42 = .ok (.aload_n 0, 1) := by decide +kernel
theorem d_D_sell_43 : decode prog_1_method_31_code 43 = .ok (.getfield 51, 3) := by decide +kernel
theorem d_D_sell_46 : decode prog_1_method_31_code 46 = .ok (.aload_n 0, 1) := by decide +kernel
theorem d_D_sell_47 : decode prog_1_method_31_code 47 = .ok (.getfield 12, 3) := by decide +kernel
theorem d_D_sell_50 : decode prog_1_method_31_code 50 = .ok (.iload_n 1, 1) := by decide +kernel
theorem d_D_sell_51 : decode prog_1_method_31_code 51 = .ok (.iconst 2, 1) := by decide +kernel
theorem d_D_sell_52 : decode prog_1_method_31_code 52 = .ok (.invokevirtual 169, 3) := by decide +kernel
theorem d_D_sell_55 : decode prog_1_method_31_code 55 = .ok (.istore 5, 2) := by decide +kernel
theorem d_D_sell_57 : decode prog_1_method_31_code 57 = .ok (.iload_n 2, 1) := by decide +kernel
theorem d_D_sell_58 : decode prog_1_method_31_code 58 = .ok (.iload 4, 2) := by decide +kernel
theorem d_D_sell_60 : decode prog_1_method_31_code 60 = .ok (.if_icmp .eq 25, 3) := by decide +kernel
theorem d_D_sell_63 : decode prog_1_method_31_code 63 = .ok (.iload_n 2, 1) := by decide +kernel
theorem d_D_sell_64 : decode prog_1_method_31_code 64 = .ok (.aload_n 3, 1) := by decide +kernel
theorem d_D_sell_65 : decode prog_1_method_31_code 65 = .ok (.getfield 157, 3) := by decide +kernel
theorem d_D_sell_68 : decode prog_1_method_31_code 68 = .ok (.iload_n 1, 1) := by decide +kernel
theorem d_D_sell_69 : decode prog_1_method_31_code 69 = .ok (.iaload, 1) := by decide +kernel
theorem d_D_sell_70 : decode prog_1_method_31_code 70 = .ok (.if_icmp .eq 15, 3) := by decide +kernel
theorem d_D_sell_73 : decode prog_1_method_31_code 73 = .ok (.aload_n 3, 1) := by decide +kernel
theorem d_D_sell_74 : decode prog_1_method_31_code 74 = .ok (.iload_n 2, 1) := by decide +kernel
theorem d_D_sell_75 : decode prog_1_method_31_code 75 = .ok (.iload 4, 2) := by decide +kernel
theorem d_D_sell_77 : decode prog_1_method_31_code 77 = .ok (.iload 5, 2) := by decide +kernel
theorem d_D_sell_79 : decode prog_1_method_31_code 79 = .ok (.invokevirtual 301, 3) := by decide +kernel
theorem d_D_sell_82 : decode prog_1_method_31_code 82 = .ok (.ifCond .ne 10, 3) := by decide +kernel
theorem d_D_sell_85 : decode prog_1_method_31_code 85 = .ok (.aload_n 0, 1) := by decide +kernel
theorem d_D_sell_86 : decode prog_1_method_31_code 86 = .ok (.bipush (-3), 2) := by decide +kernel
theorem d_D_sell_88 : decode prog_1_method_31_code 88 = .ok (.invokevirtual 108, 3) := by decide +kernel
theorem d_D_sell_91 : decode prog_1_method_31_code 91 = .ok (.ireturn, 1) := by decide +kernel
theorem d_D_sell_92 : decode prog_1_method_31_code 92 = .ok (.aload_n 0, 1) := by decide +kernel
theorem d_D_sell_93 : decode prog_1_method_31_code 93 = .ok (.getfield 34, 3) := by decide +kernel
theorem d_D_sell_96 : decode prog_1_method_31_code 96 = .ok (.aload_n 3, 1) := by decide +kernel
theorem d_D_sell_97 : decode prog_1_method_31_code 97 = .ok (.invokevirtual 263, 3) := by decide +kernel
theorem d_D_sell_100 : decode prog_1_method_31_code 100 = .ok (.aload_n 3, 1) := by decide +kernel
theorem d_D_sell_101 : decode prog_1_method_31_code 101 = .ok (.iload_n 2, 1) := by decide +kernel
theorem d_D_sell_102 : decode prog_1_method_31_code 102 = .ok (.iload 4, 2) := by decide +kernel
theorem d_D_sell_104 : decode prog_1_method_31_code 104 = .ok (.iload 5, 2) := by decide +kernel
theorem d_D_sell_106 : decode prog_1_method_31_code 106 = .ok (.invokevirtual 304, 3) := by decide +kernel
theorem d_D_sell_109 : decode prog_1_method_31_code 109 = .ok (.aload_n 3, 1) := by decide +kernel
theorem d_D_sell_110 : decode prog_1_method_31_code 110 = .ok (.getfield 160, 3) := by decide +kernel
theorem d_D_sell_113 : decode prog_1_method_31_code 113 = .ok (.iload_n 1, 1) := by decide +kernel
theorem d_D_sell_114 : decode prog_1_method_31_code 114 = .ok (.iload_n 2, 1) := by decide +kernel
theorem d_D_sell_115 : decode prog_1_method_31_code 115 = .ok (.iastore, 1) := by decide +kernel
theorem d_D_sell_116 : decode prog_1_method_31_code 116 = .ok (.aload_n 0, 1) := by decide +kernel
theorem d_D_sell_117 : decode prog_1_method_31_code 117 = .ok (.iconst 3, 1) := by decide +kernel
theorem d_D_sell_118 : decode prog_1_method_31_code 118 = .ok (.iload 5, 2) := by decide +kernel
theorem d_D_sell_120 : decode prog_1_method_31_code 120 = .ok (.invokevirtual 295, 3) := by decide +kernel
theorem d_D_sell_123 : decode prog_1_method_31_code 123 = .ok (.ireturn, 1) := by decide +kernel
def w_D_sell {d : Nat} (hd : 2 ≤ d) := (show SS ("DebtDoors", prog_1_method_31_code, 6) (some .int) d 0 0 0 0 _ from (sS (p1 := 8) (sRn 3 (rFr fl_D_115 nk_9_0 (rFr fl_D_12 nk_11_0 (rAn 0 d_D_sell_0 rfl) d_D_sell_1) d_D_sell_4) d_D_sell_7 rfl (by decide)) (sS (p1 := 34) (sIf (pn := 34) (tt := 27) (xC (rOr (mm := 16) (rNot (rNot (rJ1 (tgt := 27) k_eq (rV p_Le_has (Nat.le_trans (Nat.le_of_ble_eq_true rfl) hd) lv_D_156 (rAi (rAr rA0 (rAn 3 d_D_sell_8 rfl)) (rIn 1 d_D_sell_9 rfl)) (by decide) d_D_sell_10) d_D_sell_13 (by decide)))) (rNot (rJ1 (tgt := 34) k_ne (rV p_To_has (Nat.le_trans (Nat.le_of_ble_eq_true rfl) hd) lv_D_137 (rAi (rAr rA0 (rFr fl_D_12 nk_11_0 (rAn 0 d_D_sell_16 rfl) d_D_sell_17)) (rIn 2 d_D_sell_20 rfl)) (by decide) d_D_sell_21) d_D_sell_24 (by decide))))) (sRi (xV lv_D_108 (xA (rAi (rAr rA0 (rAn 0 d_D_sell_27 rfl)) (rB d_D_sell_28 rfl))) (by decide) d_D_sell_30) d_D_sell_33 rfl)) (sS (p1 := 42) (sI (xE (rIa (rFr fl_D_160 nk_1_2 (rAn 3 d_D_sell_34 rfl) d_D_sell_35) (rIn 1 d_D_sell_38 rfl) d_D_sell_39)) d_D_sell_40 (by decide)) (sS (p1 := 57) (sI (xV lv_D_169 (xA (rAi (rAi (rAr (rAr rA0 (rFr fl_D_51 nk_11_7 (rAn 0 d_D_sell_42 rfl) d_D_sell_43)) (rFr fl_D_12 nk_11_0 (rAn 0 d_D_sell_46 rfl) d_D_sell_47)) (rIn 1 d_D_sell_50 rfl)) (rI d_D_sell_51 rfl))) (by decide) d_D_sell_52) d_D_sell_55 (by decide)) (sS (p1 := 92) (sIf (pn := 92) (tt := 85) (xC (rOr (mm := 73) (rOr (mm := 63) (rJ2 (tgt := 85) j_eq (rIn 2 d_D_sell_57 rfl) (rIl d_D_sell_58) d_D_sell_60 (by decide)) (rJ2 (tgt := 85) j_eq (rIn 2 d_D_sell_63 rfl) (rIa (rFr fl_D_157 nk_1_1 (rAn 3 d_D_sell_64 rfl) d_D_sell_65) (rIn 1 d_D_sell_68 rfl) d_D_sell_69) d_D_sell_70 (by decide))) (rNot (rJ1 (tgt := 92) k_ne (rV p_Le_canPay (Nat.le_trans (Nat.le_of_ble_eq_true rfl) hd) lv_D_301 (rAi (rAi (rAi (rAr rA0 (rAn 3 d_D_sell_73 rfl)) (rIn 2 d_D_sell_74 rfl)) (rIl d_D_sell_75)) (rIl d_D_sell_77)) (by decide) d_D_sell_79) d_D_sell_82 (by decide))))) (sRi (xV lv_D_108 (xA (rAi (rAr rA0 (rAn 0 d_D_sell_85 rfl)) (rB d_D_sell_86 rfl))) (by decide) d_D_sell_88) d_D_sell_91 rfl)) (sS (p1 := 100) (sV (xVv lv_D_263 (xA (rAr (rAr rA0 (rFr fl_D_34 nk_11_4 (rAn 0 d_D_sell_92 rfl) d_D_sell_93)) (rAn 3 d_D_sell_96 rfl))) (by decide) d_D_sell_97)) (sS (p1 := 109) (sV (xVv lv_D_304 (xA (rAi (rAi (rAi (rAr rA0 (rAn 3 d_D_sell_100 rfl)) (rIn 2 d_D_sell_101 rfl)) (rIl d_D_sell_102)) (rIl d_D_sell_104))) (by decide) d_D_sell_106)) (sS (p1 := 116) (sAs (rFr fl_D_160 nk_1_2 (rAn 3 d_D_sell_109 rfl) d_D_sell_110) (rIn 1 d_D_sell_113 rfl) (xE (rIn 2 d_D_sell_114 rfl)) d_D_sell_115) (sRi (xV lv_D_295 (xA (rAi (rAi (rAr rA0 (rAn 0 d_D_sell_116 rfl)) (rI d_D_sell_117 rfl)) (rIl d_D_sell_118))) (by decide) d_D_sell_120) d_D_sell_123 rfl))))))))))
def y_M_sell : zMt := (⟨"DebtDoorsModel", "sell", "(II)I"⟩, prog_14_method_100_code, 5, some .int)
theorem d_M_sell_0 : decode prog_14_method_100_code 0 = .ok (.aload_n 0, 1) := by decide +kernel
theorem d_M_sell_1 : decode prog_14_method_100_code 1 = .ok (.iload_n 1, 1) := by decide +kernel
theorem d_M_sell_2 : decode prog_14_method_100_code 2 = .ok (.invokevirtual 169, 3) := by decide +kernel
theorem d_M_sell_5 : decode prog_14_method_100_code 5 = .ok (.ifCond .eq 11, 3) := by decide +kernel
theorem d_M_sell_8 : decode prog_14_method_100_code 8 = .ok (.aload_n 0, 1) := by decide +kernel
theorem d_M_sell_9 : decode prog_14_method_100_code 9 = .ok (.iload_n 2, 1) := by decide +kernel
theorem d_M_sell_10 : decode prog_14_method_100_code 10 = .ok (.invokevirtual 152, 3) := by decide +kernel
theorem d_M_sell_13 : decode prog_14_method_100_code 13 = .ok (.ifCond .ne 10, 3) := by decide +kernel
theorem d_M_sell_16 : decode prog_14_method_100_code 16 = .ok (.aload_n 0, 1) := by decide +kernel
theorem d_M_sell_17 : decode prog_14_method_100_code 17 = .ok (.bipush (-2), 2) := by decide +kernel
theorem d_M_sell_19 : decode prog_14_method_100_code 19 = .ok (.invokevirtual 127, 3) := by decide +kernel
theorem d_M_sell_22 : decode prog_14_method_100_code 22 = .ok (.ireturn, 1) := by decide +kernel
theorem d_M_sell_23 : decode prog_14_method_100_code 23 = .ok (.bipush 7, 2) := by decide +kernel
theorem d_M_sell_25 : decode prog_14_method_100_code 25 = .ok (.iconst 4, 1) := by decide +kernel
theorem d_M_sell_26 : decode prog_14_method_100_code 26 = .ok (.iload_n 1, 1) := by decide +kernel
theorem d_M_sell_27 : decode prog_14_method_100_code 27 = .ok (.imul, 1) := by decide +kernel
theorem d_M_sell_28 : decode prog_14_method_100_code 28 = .ok (.iadd, 1) := by decide +kernel
theorem d_M_sell_29 : decode prog_14_method_100_code 29 = .ok (.istore_n 3, 1) := by decide +kernel
theorem d_M_sell_30 : decode prog_14_method_100_code 30 = .ok (.aload_n 0, 1) := by decide +kernel
theorem d_M_sell_31 : decode prog_14_method_100_code 31 = .ok (.getfield 24, 3) := by decide +kernel
theorem d_M_sell_34 : decode prog_14_method_100_code 34 = .ok (.iload_n 3, 1) := by decide +kernel
theorem d_M_sell_35 : decode prog_14_method_100_code 35 = .ok (.iaload, 1) := by decide +kernel
theorem d_M_sell_36 : decode prog_14_method_100_code 36 = .ok (.iload_n 2, 1) := by decide +kernel
theorem d_M_sell_37 : decode prog_14_method_100_code 37 = .ok (.if_icmp .eq 15, 3) := by decide +kernel
theorem d_M_sell_40 : decode prog_14_method_100_code 40 = .ok (.aload_n 0, 1) := by decide +kernel
theorem d_M_sell_41 : decode prog_14_method_100_code 41 = .ok (.getfield 24, 3) := by decide +kernel
theorem d_M_sell_44 : decode prog_14_method_100_code 44 = .ok (.iload_n 3, 1) := by decide +kernel
theorem d_M_sell_45 : decode prog_14_method_100_code 45 = .ok (.iconst 1, 1) := by decide +kernel
theorem d_M_sell_46 : decode prog_14_method_100_code 46 = .ok (.iadd, 1) := by decide +kernel
theorem d_M_sell_47 : decode prog_14_method_100_code 47 = .ok (.iaload, 1) := by decide +kernel
theorem d_M_sell_48 : decode prog_14_method_100_code 48 = .ok (.iload_n 2, 1) := by decide +kernel
theorem d_M_sell_49 : decode prog_14_method_100_code 49 = .ok (.if_icmp .ne 10, 3) := by decide +kernel
theorem d_M_sell_52 : decode prog_14_method_100_code 52 = .ok (.aload_n 0, 1) := by decide +kernel
theorem d_M_sell_53 : decode prog_14_method_100_code 53 = .ok (.bipush (-3), 2) := by decide +kernel
theorem d_M_sell_55 : decode prog_14_method_100_code 55 = .ok (.invokevirtual 127, 3) := by decide +kernel
theorem d_M_sell_58 : decode prog_14_method_100_code 58 = .ok (.ireturn, 1) := by decide +kernel
theorem d_M_sell_59 : decode prog_14_method_100_code 59 = .ok (.aload_n 0, 1) := by decide +kernel
theorem d_M_sell_60 : decode prog_14_method_100_code 60 = .ok (.iload_n 1, 1) := by decide +kernel
theorem d_M_sell_61 : decode prog_14_method_100_code 61 = .ok (.invokevirtual 172, 3) := by decide +kernel
theorem d_M_sell_64 : decode prog_14_method_100_code 64 = .ok (.istore 4, 2) := by decide +kernel
theorem d_M_sell_66 : decode prog_14_method_100_code 66 = .ok (.aload_n 0, 1) := by decide +kernel
theorem d_M_sell_67 : decode prog_14_method_100_code 67 = .ok (.getfield 24, 3) := by decide +kernel
theorem d_M_sell_70 : decode prog_14_method_100_code 70 = .ok (.iconst 0, 1) := by decide +kernel
theorem d_M_sell_71 : decode prog_14_method_100_code 71 = .ok (.iload_n 2, 1) := by decide +kernel
theorem d_M_sell_72 : decode prog_14_method_100_code 72 = .ok (.iadd, 1) := by decide +kernel
theorem d_M_sell_73 : decode prog_14_method_100_code 73 = .ok (.iaload, 1) := by decide +kernel
theorem d_M_sell_74 : decode prog_14_method_100_code 74 = .ok (.iload 4, 2) := by decide +kernel
theorem d_M_sell_76 : decode prog_14_method_100_code 76 = .ok (.if_icmp .lt 27, 3) := by decide +kernel
theorem d_M_sell_79 : decode prog_14_method_100_code 79 = .ok (.aload_n 0, 1) := by decide +kernel
theorem d_M_sell_80 : decode prog_14_method_100_code 80 = .ok (.getfield 24, 3) := by decide +kernel
theorem d_M_sell_83 : decode prog_14_method_100_code 83 = .ok (.iconst 0, 1) := by decide +kernel
theorem d_M_sell_84 : decode prog_14_method_100_code 84 = .ok (.aload_n 0, 1) := by decide +kernel
theorem d_M_sell_85 : decode prog_14_method_100_code 85 = .ok (.getfield 24, 3) := by decide +kernel
theorem d_M_sell_88 : decode prog_14_method_100_code 88 = .ok (.iload_n 3, 1) := by decide +kernel
theorem d_M_sell_89 : decode prog_14_method_100_code 89 = .ok (.iconst 1, 1) := by decide +kernel
theorem d_M_sell_90 : decode prog_14_method_100_code 90 = .ok (.iadd, 1) := by decide +kernel
theorem d_M_sell_91 : decode prog_14_method_100_code 91 = .ok (.iaload, 1) := by decide +kernel
theorem d_M_sell_92 : decode prog_14_method_100_code 92 = .ok (.iadd, 1) := by decide +kernel
theorem d_M_sell_93 : decode prog_14_method_100_code 93 = .ok (.iaload, 1) := by decide +kernel
theorem d_M_sell_94 : decode prog_14_method_100_code 94 = .ok (.iload 4, 2) := by decide +kernel
theorem d_M_sell_96 : decode prog_14_method_100_code 96 = .ok (.iadd, 1) := by decide +kernel
theorem d_M_sell_97 : decode prog_14_method_100_code 97 = .ok (.sipush 9999, 3) := by decide +kernel
theorem d_M_sell_100 : decode prog_14_method_100_code 100 = .ok (.if_icmp .le 10, 3) := by decide +kernel
theorem d_M_sell_103 : decode prog_14_method_100_code 103 = .ok (.aload_n 0, 1) := by decide +kernel
theorem d_M_sell_104 : decode prog_14_method_100_code 104 = .ok (.bipush (-3), 2) := by decide +kernel
theorem d_M_sell_106 : decode prog_14_method_100_code 106 = .ok (.invokevirtual 127, 3) := by decide +kernel
theorem d_M_sell_109 : decode prog_14_method_100_code 109 = .ok (.ireturn, 1) := by decide +kernel
theorem d_M_sell_110 : decode prog_14_method_100_code 110 = .ok (.aload_n 0, 1) := by decide +kernel
theorem d_M_sell_111 : decode prog_14_method_100_code 111 = .ok (.iconst 3, 1) := by decide +kernel
theorem d_M_sell_112 : decode prog_14_method_100_code 112 = .ok (.invokevirtual 357, 3) := by decide +kernel
theorem d_M_sell_115 : decode prog_14_method_100_code 115 = .ok (.aload_n 0, 1) := by decide +kernel
theorem d_M_sell_116 : decode prog_14_method_100_code 116 = .ok (.getfield 24, 3) := by decide +kernel
theorem d_M_sell_119 : decode prog_14_method_100_code 119 = .ok (.iconst 0, 1) := by decide +kernel
theorem d_M_sell_120 : decode prog_14_method_100_code 120 = .ok (.iload_n 2, 1) := by decide +kernel
theorem d_M_sell_121 : decode prog_14_method_100_code 121 = .ok (.iadd, 1) := by decide +kernel
theorem d_M_sell_122 : decode prog_14_method_100_code 122 = .ok (.dup2, 1) := by decide +kernel
theorem d_M_sell_123 : decode prog_14_method_100_code 123 = .ok (.iaload, 1) := by decide +kernel
theorem d_M_sell_124 : decode prog_14_method_100_code 124 = .ok (.iload 4, 2) := by decide +kernel
theorem d_M_sell_126 : decode prog_14_method_100_code 126 = .ok (.isub, 1) := by decide +kernel
theorem d_M_sell_127 : decode prog_14_method_100_code 127 = .ok (.iastore, 1) := by decide +kernel
theorem d_M_sell_128 : decode prog_14_method_100_code 128 = .ok (.aload_n 0, 1) := by decide +kernel
theorem d_M_sell_129 : decode prog_14_method_100_code 129 = .ok (.getfield 24, 3) := by decide +kernel
theorem d_M_sell_132 : decode prog_14_method_100_code 132 = .ok (.iconst 0, 1) := by decide +kernel
theorem d_M_sell_133 : decode prog_14_method_100_code 133 = .ok (.aload_n 0, 1) := by decide +kernel
theorem d_M_sell_134 : decode prog_14_method_100_code 134 = .ok (.getfield 24, 3) := by decide +kernel
theorem d_M_sell_137 : decode prog_14_method_100_code 137 = .ok (.iload_n 3, 1) := by decide +kernel
theorem d_M_sell_138 : decode prog_14_method_100_code 138 = .ok (.iconst 1, 1) := by decide +kernel
theorem d_M_sell_139 : decode prog_14_method_100_code 139 = .ok (.iadd, 1) := by decide +kernel
theorem d_M_sell_140 : decode prog_14_method_100_code 140 = .ok (.iaload, 1) := by decide +kernel
theorem d_M_sell_141 : decode prog_14_method_100_code 141 = .ok (.iadd, 1) := by decide +kernel
theorem d_M_sell_142 : decode prog_14_method_100_code 142 = .ok (.dup2, 1) := by decide +kernel
theorem d_M_sell_143 : decode prog_14_method_100_code 143 = .ok (.iaload, 1) := by decide +kernel
theorem d_M_sell_144 : decode prog_14_method_100_code 144 = .ok (.iload 4, 2) := by decide +kernel
theorem d_M_sell_146 : decode prog_14_method_100_code 146 = .ok (.iadd, 1) := by decide +kernel
theorem d_M_sell_147 : decode prog_14_method_100_code 147 = .ok (.iastore, 1) := by decide +kernel
theorem d_M_sell_148 : decode prog_14_method_100_code 148 = .ok (.aload_n 0, 1) := by decide +kernel
theorem d_M_sell_149 : decode prog_14_method_100_code 149 = .ok (.getfield 24, 3) := by decide +kernel
theorem d_M_sell_152 : decode prog_14_method_100_code 152 = .ok (.iload_n 3, 1) := by decide +kernel
theorem d_M_sell_153 : decode prog_14_method_100_code 153 = .ok (.iconst 1, 1) := by decide +kernel
theorem d_M_sell_154 : decode prog_14_method_100_code 154 = .ok (.iadd, 1) := by decide +kernel
theorem d_M_sell_155 : decode prog_14_method_100_code 155 = .ok (.iload_n 2, 1) := by decide +kernel
theorem d_M_sell_156 : decode prog_14_method_100_code 156 = .ok (.iastore, 1) := by decide +kernel
theorem d_M_sell_157 : decode prog_14_method_100_code 157 = .ok (.aload_n 0, 1) := by decide +kernel
theorem d_M_sell_158 : decode prog_14_method_100_code 158 = .ok (.iload 4, 2) := by decide +kernel
theorem d_M_sell_160 : decode prog_14_method_100_code 160 = .ok (.invokevirtual 14, 3) := by decide +kernel
theorem d_M_sell_163 : decode prog_14_method_100_code 163 = .ok (.ireturn, 1) := by decide +kernel
def w_M_sell {d : Nat} (hd : 3 ≤ d) := (show SS ("DebtDoorsModel", prog_14_method_100_code, 5) (some .int) d 0 0 0 0 _ from (sS (p1 := 23) (sIf (pn := 23) (tt := 16) (xC (rOr (mm := 8) (rNot (rNot (rJ1 (tgt := 16) k_eq (rV p_M_isDebt (Nat.le_trans (Nat.le_of_ble_eq_true rfl) hd) lv_M_169 (rAi (rAr rA0 (rAn 0 d_M_sell_0 rfl)) (rIn 1 d_M_sell_1 rfl)) (by decide) d_M_sell_2) d_M_sell_5 (by decide)))) (rNot (rJ1 (tgt := 23) k_ne (rV p_M_isPerson (Nat.le_trans (Nat.le_of_ble_eq_true rfl) hd) lv_M_152 (rAi (rAr rA0 (rAn 0 d_M_sell_8 rfl)) (rIn 2 d_M_sell_9 rfl)) (by decide) d_M_sell_10) d_M_sell_13 (by decide))))) (sRi (xV lv_M_127 (xA (rAi (rAr rA0 (rAn 0 d_M_sell_16 rfl)) (rB d_M_sell_17 rfl))) (by decide) d_M_sell_19) d_M_sell_22 rfl)) (sS (p1 := 30) (sIn 3 (xE (r2 o_add (rB d_M_sell_23 rfl) (r2 o_mul (rI d_M_sell_25 rfl) (rIn 1 d_M_sell_26 rfl) d_M_sell_27) d_M_sell_28)) d_M_sell_29 rfl (by decide)) (sS (p1 := 59) (sIf (pn := 59) (tt := 52) (xC (rOr (mm := 40) (rJ2 (tgt := 52) j_eq (rIa (rFr fl_M_24 nk_12_2 (rAn 0 d_M_sell_30 rfl) d_M_sell_31) (rIn 3 d_M_sell_34 rfl) d_M_sell_35) (rIn 2 d_M_sell_36 rfl) d_M_sell_37 (by decide)) (rNot (rJ2 (tgt := 59) j_ne (rIa (rFr fl_M_24 nk_12_2 (rAn 0 d_M_sell_40 rfl) d_M_sell_41) (r2 o_add (rIn 3 d_M_sell_44 rfl) (rI d_M_sell_45 rfl) d_M_sell_46) d_M_sell_47) (rIn 2 d_M_sell_48 rfl) d_M_sell_49 (by decide))))) (sRi (xV lv_M_127 (xA (rAi (rAr rA0 (rAn 0 d_M_sell_52 rfl)) (rB d_M_sell_53 rfl))) (by decide) d_M_sell_55) d_M_sell_58 rfl)) (sS (p1 := 66) (sI (xV lv_M_172 (xA (rAi (rAr rA0 (rAn 0 d_M_sell_59 rfl)) (rIn 1 d_M_sell_60 rfl))) (by decide) d_M_sell_61) d_M_sell_64 (by decide)) (sS (p1 := 110) (sIf (pn := 110) (tt := 103) (xC (rOr (mm := 79) (rJ2 (tgt := 103) j_lt (rIa (rFr fl_M_24 nk_12_2 (rAn 0 d_M_sell_66 rfl) d_M_sell_67) (r2 o_add (rI d_M_sell_70 rfl) (rIn 2 d_M_sell_71 rfl) d_M_sell_72) d_M_sell_73) (rIl d_M_sell_74) d_M_sell_76 (by decide)) (rNot (rJ2 (tgt := 110) j_le (r2 o_add (rIa (rFr fl_M_24 nk_12_2 (rAn 0 d_M_sell_79 rfl) d_M_sell_80) (r2 o_add (rI d_M_sell_83 rfl) (rIa (rFr fl_M_24 nk_12_2 (rAn 0 d_M_sell_84 rfl) d_M_sell_85) (r2 o_add (rIn 3 d_M_sell_88 rfl) (rI d_M_sell_89 rfl) d_M_sell_90) d_M_sell_91) d_M_sell_92) d_M_sell_93) (rIl d_M_sell_94) d_M_sell_96) (rSi d_M_sell_97 rfl) d_M_sell_100 (by decide))))) (sRi (xV lv_M_127 (xA (rAi (rAr rA0 (rAn 0 d_M_sell_103 rfl)) (rB d_M_sell_104 rfl))) (by decide) d_M_sell_106) d_M_sell_109 rfl)) (sS (p1 := 115) (sV (xVv lv_M_357 (xA (rAi (rAr rA0 (rAn 0 d_M_sell_110 rfl)) (rI d_M_sell_111 rfl))) (by decide) d_M_sell_112)) (sS (p1 := 128) (sAo o_sub (rFr fl_M_24 nk_12_2 (rAn 0 d_M_sell_115 rfl) d_M_sell_116) (r2 o_add (rI d_M_sell_119 rfl) (rIn 2 d_M_sell_120 rfl) d_M_sell_121) d_M_sell_122 d_M_sell_123 (rIl d_M_sell_124) d_M_sell_126 d_M_sell_127) (sS (p1 := 148) (sAo o_add (rFr fl_M_24 nk_12_2 (rAn 0 d_M_sell_128 rfl) d_M_sell_129) (r2 o_add (rI d_M_sell_132 rfl) (rIa (rFr fl_M_24 nk_12_2 (rAn 0 d_M_sell_133 rfl) d_M_sell_134) (r2 o_add (rIn 3 d_M_sell_137 rfl) (rI d_M_sell_138 rfl) d_M_sell_139) d_M_sell_140) d_M_sell_141) d_M_sell_142 d_M_sell_143 (rIl d_M_sell_144) d_M_sell_146 d_M_sell_147) (sS (p1 := 157) (sAs (rFr fl_M_24 nk_12_2 (rAn 0 d_M_sell_148 rfl) d_M_sell_149) (r2 o_add (rIn 3 d_M_sell_152 rfl) (rI d_M_sell_153 rfl) d_M_sell_154) (xE (rIn 2 d_M_sell_155 rfl)) d_M_sell_156) (sRi (xV lv_M_14 (xA (rAi (rAr rA0 (rAn 0 d_M_sell_157 rfl)) (rIl d_M_sell_158))) (by decide) d_M_sell_160) d_M_sell_163 rfl)))))))))))
theorem LC_sell {k0 bu : Int} : LC y_D_sell y_M_sell [vi k0, vi bu] := LC.de (fun k μ Z F A w h0 h1 hJ hC hM => by
  obtain ⟨n1, n2, n3, n4, n5, n6, n7⟩ := hC.n
  have hr := hJ.rD h0 h1
  have hlow : -6 ≤ slC0 Z F A w k0 bu := by unfold slC0 zit; repeat' split; all_goals omega
  have hz := hC.1.1
  refine ⟨slC0 Z F A w k0 bu, 3, odA Z F A w k0 2, sdA A k0 bu (odA Z F A w k0 2), ⟨hlow, by decide, by decide⟩, fun hc => sdA_ok hC.1 hC.2.1 hc, ?_, ?_⟩
  · refine zCw.use (zSp.ss [vr 0, vi k0, vi bu, vx 0, vx 0, vx 0] rfl (w_D_sell (d := 100) (by decide)) rfl rfl ?_) (by decide) (fun q μ' e => e)
    (try simp only [zit_e, Bool.and_eq_true, Bool.or_eq_true, Bool.not_eq_true', Bool.and_eq_false_iff, Bool.or_eq_false_iff, Bool.not_eq_false', zbe, zdt, zdf, zb2_p, zbp_0, zbp_1, zbp_inj, zbp_01, Bool.true_eq_false, Bool.false_eq_true, true_and, and_true, Decidable.not_not, Classical.not_not, implies_true, List.nil_append, List.cons_append, List.append_assoc, Option.some.injEq, Sum.inl.injEq, zSw_c, zSw_n]); (try simp only [zit_e, Bool.and_eq_true, Bool.or_eq_true, Bool.not_eq_true', Bool.and_eq_false_iff, Bool.or_eq_false_iff, Bool.not_eq_false', zbe, zdt, zdf, zb2_p, zbp_0, zbp_1, zbp_inj, zbp_01, Bool.true_eq_false, Bool.false_eq_true, true_and, and_true, Decidable.not_not, Classical.not_not, implies_true, List.nil_append, List.cons_append, List.append_assoc, Option.some.injEq, Sum.inl.injEq, zSw_c, zSw_n, zc_0, zc_1, zc_2, zc_111, zc_324, f_Le_has, g_Le_has, f_To_has, g_To_has]); (try simp only [zi_cs, zi_c0, zii_cs, zii_c0, zl_cs, zl_c0, zll_cs, zll_c0, zr_cs, zr_c0, zrr_cs, zrr_c0, zxs_cs, zxs_c0, zxx_cs, zxx_c0, zfree_c0, zfree_c1, zfree_cs, zfree_cz, zlong_i, zlong_r, zlong_x, zset_0, zset_s, true_and, and_true, Option.some.injEq, Sum.inl.injEq, Sum.inr.injEq, zb2_p, zbp_0, zbp_1, zbp_inj, zbp_01, Nat.zero_add, Nat.reduceAdd, implies_true, List.nil_append, List.cons_append, List.append_assoc, Int.not_lt, Int.not_le, Decidable.not_not, Int.zero_add, Int.reduceLE, Int.reduceLT, Int.reduceEq, Int.reduceNe, Int.reduceAdd, Int.reduceSub, Int.reduceMul, Int.reduceNeg, Int.reduceToNat, Nat.reduceMul, Nat.reduceLT, Nat.reduceEqDiff, and_self, ite_true, ite_false, zx1, zx2, zRecv, List.length_cons, List.length_nil, ne_eq, not_true_eq_false, not_false_eq_true, true_or, or_true, or_false, false_or, and_false, false_and, zf01, zf10, reduceCtorEq, zSw_c, zSw_n, zm_r, zit_T, zit_F, false_implies, true_implies, zc_0, zc_1, zc_2, zc_111, zc_324, f_Le_has, g_Le_has, f_To_has, g_To_has])
    rw [n6, n2]
    refine zif (fun c => ?_) (fun c => ?_)
    · have e : slC0 Z F A w k0 bu = -2 := zit_t (by omega)
      exact rfD_w (by omega) (by omega) hr ⟨_, rfl, OD.no e (by decide) PJc.rf⟩
    have c : (0 ≤ k0 ∧ k0 < (A.2.1.length : Int)) ∧ 0 ≤ bu ∧ bu < Z.1 := by omega
    have f1 : ∀ x : Int, slC0 Z F A w k0 bu = x ↔ zit ((bu = (dbt A k0).2.1 ∨ bu = (dbt A k0).1) ∨ ¬ (odA Z F A w k0 2 ≤ puA A bu ∧ puA A (dbt A k0).2.1 + odA Z F A w k0 2 ≤ 9999)) (-3) 0 = x := fun x => by
      unfold slC0
      rw [zit_f (fun q => q c)]
    refine ⟨by omega, ?_⟩
    obtain ⟨d1, d2⟩ := hC.e c.1.1 c.1.2
    have e4 : μ 4 k0 = (dbt A k0).1 ∧ μ 5 k0 = (dbt A k0).2.1 := ⟨congrArg (fun x => x.1) d1, congrArg (fun x => x.2.1) d1⟩
    refine zCw.use (q_C_ofDebt (d := 6) (by decide) hC c.1.1 c.1.2 (Or.inr rfl)) (by omega) (fun q μ2 e => ?_)
    obtain ⟨rfl, hcf⟩ := e
    obtain ⟨-, p1, p2⟩ := odA_in (Z := Z) (F := F) (w := w) (x := 2) hC.2.1 c.1.1 c.1.2
    have p2 : odA Z F A w k0 2 ≤ 9999 := p2
    refine ⟨_, rfl, ?_⟩
    have hz2 := hcf.1
    obtain ⟨hp, hk⟩ := hC.p
    have o1 := hp bu (by omega) (by omega)
    have o2 := hp (dbt A k0).2.1 d2.2.1.1 d2.2.1.2
    have k1 := hk bu (by omega) (by omega)
    have k2 := hk (dbt A k0).2.1 d2.2.1.1 d2.2.1.2
    generalize hpr : odA Z F A w k0 2 = p at *
    rw [e4.2, hz2 4 (by decide), e4.1, show f_Le_canPay [vr 2, vi bu, vi (dbt A k0).2.1, vi p] μ2 = zbp (p ≤ μ2 3 bu ∧ μ2 3 (dbt A k0).2.1 + p ≤ 9999) from rfl, hz2 3 (by decide)]
    have d22 := d2.2.1
    refine ⟨⟨fun _ => by omega, fun _ => ⟨rfl, ⟨by omega, by omega⟩, d22, by rw [hz2 3 (by decide)]; exact k2, by omega, by omega⟩⟩, ?_⟩
    refine zif (fun c2 => ?_) (fun c2 => ?_) <;> rw [zbp_0, o1, o2] at c2
    · have e : slC0 Z F A w k0 bu = -3 := (f1 _).2 (zit_t c2)
      exact rfD_w (by omega) (by omega) (by rw [hz2 354 (by decide)]; exact hr) ⟨_, rfl, OD.no e (by decide) (PJc.k hcf.hm hcf.kc)⟩
    have e0 : slC0 Z F A w k0 bu = 0 := (f1 _).2 (zit_f c2)
    rw [e0]
    have hs2 : SlO μ2 := hJ.2.1.so.c (fun c p q => hz2 c (by simp only [List.mem_cons, List.not_mem_nil, or_false]; omega))
    refine hoC_w (by omega) hs2 (by rw [hz2 2 (by decide)]; exact n5) (fun X hX hk2 => ?_)
    have hX := hX.pre hcf.kc hJ.2.1.so
    have x2 : X 2 = μ 2 := (hk2 2 (by decide)).trans (hz2 2 (by decide))
    have x3 : X 3 = μ 3 := (hk2 3 (by decide)).trans (hz2 3 (by decide))
    refine ⟨rfl, ?_⟩
    have hbs : bu ≠ (dbt A k0).2.1 := by omega
    have hpp : zm X 3 bu (X 3 bu - p) 3 (dbt A k0).2.1 = μ 3 (dbt A k0).2.1 := by rw [zm_o (by omega), x3]
    refine zCw.use (q_Le_pay (d := 1) (by decide) (by omega) d22 ⟨by rw [x3]; ((try simp only [zI_e]); (first | done | omega | skip)), by rw [hpp]; ((try simp only [zI_e]); (first | done | omega | skip))⟩) (by decide) (fun q X2 e => ?_)
    obtain ⟨rfl, rfl⟩ := e
    refine ⟨rfl, by omega, by omega, ?_⟩
    rw [hpp, x3]
    have hf : zfc [3, 5] X (zm (zm (zm X 3 bu (μ 3 bu - p)) 3 (dbt A k0).2.1 (μ 3 (dbt A k0).2.1 + p)) 5 k0 bu) := ((zfc.rf.zm (by decide)).zm (by decide)).zm (by decide)
    have g3 : zm (zm (zm X 3 bu (μ 3 bu - p)) 3 (dbt A k0).2.1 (μ 3 (dbt A k0).2.1 + p)) 5 k0 bu 3 = zm (zm X 3 bu (μ 3 bu - p)) 3 (dbt A k0).2.1 (μ 3 (dbt A k0).2.1 + p) 3 := zm_off _ (by decide)
    have gD : dbD (zm (zm (zm X 3 bu (μ 3 bu - p)) 3 (dbt A k0).2.1 (μ 3 (dbt A k0).2.1 + p)) 5 k0 bu) = A.2.1.set k0.toNat ((dbt A k0).1, bu, (dbt A k0).2.2.1, (dbt A k0).2.2.2) := by
      have e1 : ∀ c : Nat, c ≠ 3 → zm (zm X 3 bu (μ 3 bu - p)) 3 (dbt A k0).2.1 (μ 3 (dbt A k0).2.1 + p) c = X c := fun c hc => by rw [zm_off _ hc, zm_off _ hc]
      have e2 : dbD (zm (zm X 3 bu (μ 3 bu - p)) 3 (dbt A k0).2.1 (μ 3 (dbt A k0).2.1 + p)) = A.2.1 := by
        exact (dbD_c (μ := μ) (fun c hc => by rw [e1 c (by omega), hk2 c (by omega), hz2 c (by simp only [List.mem_cons, List.not_mem_nil, or_false]; omega)]) (by rw [e1 2 (by decide), x2])).trans n3
      have e3 : fD (zm (zm X 3 bu (μ 3 bu - p)) 3 (dbt A k0).2.1 (μ 3 (dbt A k0).2.1 + p)) k0 = dbt A k0 := by
        refine Eq.trans ?_ d1
        unfold fD
        rw [e1 4 (by decide), e1 5 (by decide), e1 6 (by decide), e1 7 (by decide), hk2 4 (by decide), hk2 5 (by decide), hk2 6 (by decide), hk2 7 (by decide), hz2 4 (by decide), hz2 5 (by decide), hz2 6 (by decide), hz2 7 (by decide)]
      rw [dbD_cr c.1.1 (by rw [e1 2 (by decide), x2]; omega), e2, e3]
    generalize zm (zm (zm X 3 bu (μ 3 bu - p)) 3 (dbt A k0).2.1 (μ 3 (dbt A k0).2.1 + p)) 5 k0 bu = X2 at *
    refine seD_w (a := μ) (by omega) (by omega) (by rw [hf 354 (by decide), hk2 354 (Or.inr (by decide)), hz2 354 (by decide)]; exact hr) (hX.kt (hf.kt (by simp))) (fun q => absurd q (by omega)) (fun _ Y hY hz => ⟨_, rfl, OD.yes (by decide) ?_ ⟨rfl, Y, hY, ?_, ?_, rfl⟩⟩)
    · exact fun i hi => by rw [zm_off _ (by omega), hz i (by simp only [List.mem_cons, List.not_mem_nil, or_false]; omega), hf i (by simp only [List.mem_cons, List.not_mem_nil, or_false]; omega), hk2 i (Or.inr (by omega)), hz2 i (by simp only [List.mem_cons, List.not_mem_nil, or_false]; omega)]
    · rw [hz 2 (by decide), hf 2 (by decide), x2]
      refine ⟨lgO_is ?_ ?_ ?_, n5.1⟩
      · rw [hz 3 (by decide), g3]
        refine mvP_e (p := μ 3) hp ⟨by omega, d22⟩ (fun j _ _ => ?_)
        simp only [zm_r, zit_T, x3]
      · rw [dbD_c (fun c hc => hz c (by simp only [List.mem_cons, List.not_mem_nil, or_false]; omega)) (by rw [hz 2 (by decide)]), gD]
        rfl
      · rw [hz 2 (by decide), hf 2 (by decide), x2, n4]
        rfl
    · exact fun c hc => by rw [hz c (by simp only [List.mem_cons, List.not_mem_nil, or_false]; omega), hf c (by simp only [List.mem_cons, List.not_mem_nil, or_false]; omega), hk2 c (by omega), hz2 c (by simp only [List.mem_cons, List.not_mem_nil, or_false]; omega)]
  · intro μ1 hm
    have hM := hM.k (hm 357 (by decide))
    obtain ⟨n1, n2, n3, n4, n5, n6, n7⟩ := hM.n
    have hr := hJ.rM h0 h1 hm
    have hu : 0 ≤ μ1 355 28 ∧ μ1 355 28 ≤ 16 := by
      rw [hm 355 (by decide), hJ.2.1.2.1]
      exact hJ.2.1.1.2
    refine zCw.use (zSp.ss [vr 355, vi k0, vi bu, vx 0, vx 0] rfl (w_M_sell (d := 100) (by decide)) rfl rfl ?_) (by decide) (fun q μ' e => e)
    (try simp only [zit_e, Bool.and_eq_true, Bool.or_eq_true, Bool.not_eq_true', Bool.and_eq_false_iff, Bool.or_eq_false_iff, Bool.not_eq_false', zbe, zdt, zdf, zb2_p, zbp_0, zbp_1, zbp_inj, zbp_01, Bool.true_eq_false, Bool.false_eq_true, true_and, and_true, Decidable.not_not, Classical.not_not, implies_true, List.nil_append, List.cons_append, List.append_assoc, Option.some.injEq, Sum.inl.injEq, zSw_c, zSw_n]); (try simp only [zit_e, Bool.and_eq_true, Bool.or_eq_true, Bool.not_eq_true', Bool.and_eq_false_iff, Bool.or_eq_false_iff, Bool.not_eq_false', zbe, zdt, zdf, zb2_p, zbp_0, zbp_1, zbp_inj, zbp_01, Bool.true_eq_false, Bool.false_eq_true, true_and, and_true, Decidable.not_not, Classical.not_not, implies_true, List.nil_append, List.cons_append, List.append_assoc, Option.some.injEq, Sum.inl.injEq, zSw_c, zSw_n, zc_355, f_M_isDebt, g_M_isDebt, f_M_isPerson, g_M_isPerson]); (try simp only [zi_cs, zi_c0, zii_cs, zii_c0, zl_cs, zl_c0, zll_cs, zll_c0, zr_cs, zr_c0, zrr_cs, zrr_c0, zxs_cs, zxs_c0, zxx_cs, zxx_c0, zfree_c0, zfree_c1, zfree_cs, zfree_cz, zlong_i, zlong_r, zlong_x, zset_0, zset_s, true_and, and_true, Option.some.injEq, Sum.inl.injEq, Sum.inr.injEq, zb2_p, zbp_0, zbp_1, zbp_inj, zbp_01, Nat.zero_add, Nat.reduceAdd, implies_true, List.nil_append, List.cons_append, List.append_assoc, Int.not_lt, Int.not_le, Decidable.not_not, Int.zero_add, Int.reduceLE, Int.reduceLT, Int.reduceEq, Int.reduceNe, Int.reduceAdd, Int.reduceSub, Int.reduceMul, Int.reduceNeg, Int.reduceToNat, Nat.reduceMul, Nat.reduceLT, Nat.reduceEqDiff, and_self, ite_true, ite_false, zx1, zx2, zRecv, List.length_cons, List.length_nil, ne_eq, not_true_eq_false, not_false_eq_true, true_or, or_true, or_false, false_or, and_false, false_and, zf01, zf10, reduceCtorEq, zSw_c, zSw_n, zm_r, zit_T, zit_F, false_implies, true_implies, zc_355, f_M_isDebt, g_M_isDebt, f_M_isPerson, g_M_isPerson])
    refine ⟨⟨n5, fun _ => n1⟩, ?_⟩
    rw [n6, n2]
    refine zif (fun c => ?_) (fun c => ?_)
    · have e : slC0 Z F A w k0 bu = -2 := zit_t (by omega)
      exact rfM_w (by omega) (by omega) hr ⟨_, rfl, OM.no e (by decide) PJm.rf⟩
    have c : (0 ≤ k0 ∧ k0 < (A.2.1.length : Int)) ∧ 0 ≤ bu ∧ bu < Z.1 := by omega
    have f1 : ∀ x : Int, slC0 Z F A w k0 bu = x ↔ zit ((bu = (dbt A k0).2.1 ∨ bu = (dbt A k0).1) ∨ ¬ (odA Z F A w k0 2 ≤ puA A bu ∧ puA A (dbt A k0).2.1 + odA Z F A w k0 2 ≤ 9999)) (-3) 0 = x := fun x => by
      unfold slC0
      rw [zit_f (fun q => q c)]
    obtain ⟨d1, d2⟩ := hM.e c.1.1 c.1.2
    have e4 : μ1 357 (7 + 4 * k0) = (dbt A k0).1 ∧ μ1 357 (7 + 4 * k0 + 1) = (dbt A k0).2.1 := ⟨congrArg (fun x => x.1) d1, congrArg (fun x => x.2.1) d1⟩
    rw [e4.1, e4.2]
    refine ⟨⟨by ((try simp only [zI_e]); (first | done | omega | skip)), by ((try simp only [zI_e]); (first | done | omega | skip))⟩, ⟨by omega, fun _ => ⟨by ((try simp only [zI_e]); (first | done | omega | skip)), by omega, by omega⟩⟩, ?_⟩
    refine zif (fun c1 => ?_) (fun c1 => ?_)
    · have e : slC0 Z F A w k0 bu = -3 := (f1 _).2 (zit_t (by omega))
      exact rfM_w (by omega) (by omega) hr ⟨_, rfl, OM.no e (by decide) PJm.rf⟩
    refine zCw.use (q_R_soldFor (d := 48) (by decide) hM c.1.1 c.1.2) (by omega) (fun q μ2 e => ?_)
    obtain ⟨rfl, hmf⟩ := e
    obtain ⟨-, p1, p2⟩ := odA_in (Z := Z) (F := F) (w := w) (x := 2) hM.2.1 c.1.1 c.1.2
    have p2 : odA Z F A w k0 2 ≤ 9999 := p2
    refine ⟨_, rfl, ?_⟩
    have k7 := hmf.2 357 (by decide)
    have d22 := d2.2.1
    obtain ⟨hp, hk⟩ := hM.p
    have o1 := hp bu (by omega) (by omega)
    have o2 := hp (dbt A k0).2.1 d2.2.1.1 d2.2.1.2
    have k1 := hk bu (by omega) (by omega)
    have k2 := hk (dbt A k0).2.1 d2.2.1.1 d2.2.1.2
    generalize hpr : odA Z F A w k0 2 = p at *
    simp only [k7, e4.2]
    refine ⟨⟨⟨by ((try simp only [zI_e]); (first | done | omega | skip)), by omega⟩, fun _ => ⟨⟨⟨⟨by ((try simp only [zI_e]); (first | done | omega | skip)), by omega⟩, by ((try simp only [zI_e]); (first | done | omega | skip))⟩, by omega⟩, by ((try simp only [zI_e]); (first | done | omega | skip))⟩⟩, ?_⟩
    rw [o1, o2]
    refine zif (fun c2 => ?_) (fun c2 => ?_)
    · have e : slC0 Z F A w k0 bu = -3 := (f1 _).2 (zit_t (by omega))
      exact rfM_w (by omega) (by omega) (by rw [hmf.2 356 (by decide)]; exact hr) ⟨_, rfl, OM.no e (by decide) (PJm.k hmf.hc hmf.km)⟩
    have e0 : slC0 Z F A w k0 bu = 0 := (f1 _).2 (zit_f (by omega))
    rw [e0]
    have h28 := hmf.1 28 (by decide) (by decide) (by decide) (by decide)
    refine zCw.use (q_M_keeps (d := 1) (by decide) (by rw [h28]; exact hu)) (by omega) (fun q X e => ?_)
    obtain ⟨rfl, e1, e2, e3, e4x⟩ := e
    have x7 := (e4x 357 (by decide)).trans k7
    refine ⟨rfl, ?_⟩
    rw [x7, e4.2, zit_f (show ¬ (7 + 4 * k0 + 1 = bu) by omega), zit_f (show ¬ ((dbt A k0).2.1 = bu) by omega), o1, o2]
    refine ⟨by ((try simp only [zI_e]); (first | done | omega | skip)), by omega, by omega, by ((try simp only [zI_e]); (first | done | omega | skip)), ⟨⟨by ((try simp only [zI_e]); (first | done | omega | skip)), by omega, by omega⟩, by ((try simp only [zI_e]); (first | done | omega | skip))⟩, by omega, by omega, by ((try simp only [zI_e]); (first | done | omega | skip)), by ((try simp only [zI_e]); (first | done | omega | skip)), by omega, by omega, ?_⟩
    have hf : zfc [355, 357, 369] X (zm (zm (zm X 357 bu (puA A bu - p)) 357 (dbt A k0).2.1 (puA A (dbt A k0).2.1 + p)) 357 (7 + 4 * k0 + 1) bu) := ((zfc.rf.zm (by decide)).zm (by decide)).zm (by decide)
    have g7 : ∀ j : Int, (j < 7 ∨ 71 ≤ j) → zm (zm (zm X 357 bu (puA A bu - p)) 357 (dbt A k0).2.1 (puA A (dbt A k0).2.1 + p)) 357 (7 + 4 * k0 + 1) bu 357 j = zit (j = (dbt A k0).2.1) (puA A (dbt A k0).2.1 + p) (zit (j = bu) (puA A bu - p) (μ1 357 j)) := fun j hj => by
      simp only [zm_r, zit_T]
      rw [zit_f (show ¬ (j = 7 + 4 * k0 + 1) by omega), x7]
    have gD : dbM (zm (zm (zm X 357 bu (puA A bu - p)) 357 (dbt A k0).2.1 (puA A (dbt A k0).2.1 + p)) 357 (7 + 4 * k0 + 1) bu) = A.2.1.set k0.toNat ((dbt A k0).1, bu, (dbt A k0).2.2.1, (dbt A k0).2.2.2) := by
      have e1 : ∀ j : Int, 7 ≤ j → zm (zm X 357 bu (puA A bu - p)) 357 (dbt A k0).2.1 (puA A (dbt A k0).2.1 + p) 357 j = μ1 357 j := fun j hj => by
        simp only [zm_r, zit_T]
        rw [zit_f (by omega), zit_f (by omega), x7]
      have e2 : dbM (zm (zm X 357 bu (puA A bu - p)) 357 (dbt A k0).2.1 (puA A (dbt A k0).2.1 + p)) = A.2.1 :=
        (dbM_c (μ := μ1) (by omega) (fun j h0 _ => e1 j h0)).trans n3
      have e3 : fM (zm (zm X 357 bu (puA A bu - p)) 357 (dbt A k0).2.1 (puA A (dbt A k0).2.1 + p)) k0 = dbt A k0 := by
        refine Eq.trans ?_ d1
        unfold fM
        rw [e1 _ (by omega), e1 _ (by omega), e1 _ (by omega), e1 _ (by omega)]
      rw [dbM_cr c.1.1 (by rw [e1 71 (by decide)]; omega) (by rw [e1 71 (by decide)]; omega), e2, e3]
    have g5 : zm (zm (zm X 357 bu (puA A bu - p)) 357 (dbt A k0).2.1 (puA A (dbt A k0).2.1 + p)) 357 (7 + 4 * k0 + 1) bu 355 = X 355 ∧ zm (zm (zm X 357 bu (puA A bu - p)) 357 (dbt A k0).2.1 (puA A (dbt A k0).2.1 + p)) 357 (7 + 4 * k0 + 1) bu 369 = X 369 := by
      constructor <;> rw [zm_off _ (by decide), zm_off _ (by decide), zm_off _ (by decide)]
    generalize zm (zm (zm X 357 bu (puA A bu - p)) 357 (dbt A k0).2.1 (puA A (dbt A k0).2.1 + p)) 357 (7 + 4 * k0 + 1) bu = X2 at *
    refine zCw.use (q_M_good (d := 1) (by decide)) (by decide) (fun q Y e => ?_)
    obtain ⟨rfl, rfl⟩ := e
    have hg : zfc [355, 357, 367, 369] μ1 X2 := ((hmf.2.tr e4x).tr hf).mo (by simp)
    refine ⟨_, rfl, OM.yes (by decide) ?_ ⟨rfl, X2, ⟨by rw [g5.1]; exact e2, ?_, fun c h1 h2 h3 h4 => hg c ?_, fun j h1 hj => ?_⟩, ⟨lgM_is ?_ ?_ ?_, ?_⟩, fun i hi => ?_, rfl⟩⟩
    · exact (hg.hc (by simp)).sm (by omega)
    · have u1 : unM X2 = unM X := by
        unfold unM rwM
        rw [g5.1, g5.2]
      have u2 : unM μ2 = unM μ1 := by
        unfold unM rwM
        rw [h28, hmf.2 369 (by decide)]
      rw [u1, e1, u2, k7]
    · unfold scM at h2
      simp only [List.mem_cons, List.not_mem_nil, or_false]
      omega
    · unfold kfM at h1
      rw [g5.1, e3 j hj, hmf.1 j (by omega) (by omega) (by omega) (by omega)]
    · refine mvP_e (p := μ1 357) hp ⟨by omega, d22⟩ (fun j _ _ => ?_)
      rw [g7 j (by omega), o1, o2]
    · rw [gD]
      rfl
    · rw [g7 72 (by decide), zit_f (by omega), zit_f (by omega), n4]
      rfl
    · rw [g7 71 (by decide), zit_f (by omega), zit_f (by omega)]
      exact n5.1
    · rw [g7 i (by omega), zit_f (by omega), zit_f (by omega)])

