/-! feed, end -/
def y_Re_append : zMt := (⟨"DebtDoors$Reader", "append", "(I)V"⟩, prog_8_method_2_code, 3, none)
theorem d_Re_append_0 : decode prog_8_method_2_code 0 = .ok (.bipush 24, 2) := by decide +kernel
theorem d_Re_append_2 : decode prog_8_method_2_code 2 = .ok (.istore_n 2, 1) := by decide +kernel
theorem d_Re_append_3 : decode prog_8_method_2_code 3 = .ok (.iload_n 2, 1) := by decide +kernel
theorem d_Re_append_4 : decode prog_8_method_2_code 4 = .ok (.ifCond .lt 45, 3) := by decide +kernel
theorem d_Re_append_7 : decode prog_8_method_2_code 7 = .ok (.aload_n 0, 1) := by decide +kernel
theorem d_Re_append_8 : decode prog_8_method_2_code 8 = .ok (.getfield 22, 3) := by decide +kernel
theorem d_Re_append_11 : decode prog_8_method_2_code 11 = .ok (.sipush 400, 3) := by decide +kernel
theorem d_Re_append_14 : decode prog_8_method_2_code 14 = .ok (.if_icmp .ge 29, 3) := by decide +kernel
theorem d_Re_append_17 : decode prog_8_method_2_code 17 = .ok (.aload_n 0, 1) := by decide +kernel
theorem d_Re_append_18 : decode prog_8_method_2_code 18 = .ok (.getfield 9, 3) := by decide +kernel
theorem d_Re_append_21 : decode prog_8_method_2_code 21 = .ok (.aload_n 0, 1) := by decide +kernel
theorem d_Re_append_22 : decode prog_8_method_2_code 22 = .ok (.getfield 22, 3) := by decide +kernel
theorem d_Re_append_25 : decode prog_8_method_2_code 25 = .ok (.iload_n 1, 1) := by decide +kernel
theorem d_Re_append_26 : decode prog_8_method_2_code 26 = .ok (.iload_n 2, 1) := by decide +kernel
theorem d_Re_append_27 : decode prog_8_method_2_code 27 = .ok (.iushr, 1) := by decide +kernel
theorem d_Re_append_28 : decode prog_8_method_2_code 28 = .ok (.sipush 255, 3) := by decide +kernel
theorem d_Re_append_31 : decode prog_8_method_2_code 31 = .ok (.iand, 1) := by decide +kernel
theorem d_Re_append_32 : decode prog_8_method_2_code 32 = .ok (.iastore, 1) := by decide +kernel
theorem d_Re_append_33 : decode prog_8_method_2_code 33 = .ok (.aload_n 0, 1) := by decide +kernel
theorem d_Re_append_34 : decode prog_8_method_2_code 34 = .ok (.dup, 1) := by decide +kernel
theorem d_Re_append_35 : decode prog_8_method_2_code 35 = .ok (.getfield 22, 3) := by decide +kernel
theorem d_Re_append_38 : decode prog_8_method_2_code 38 = .ok (.iconst 1, 1) := by decide +kernel
theorem d_Re_append_39 : decode prog_8_method_2_code 39 = .ok (.iadd, 1) := by decide +kernel
theorem d_Re_append_40 : decode prog_8_method_2_code 40 = .ok (.putfield 22, 3) := by decide +kernel
theorem d_Re_append_43 : decode prog_8_method_2_code 43 = .ok (.iinc 2 (-8), 3) := by decide +kernel
theorem d_Re_append_46 : decode prog_8_method_2_code 46 = .ok (.goto (-43), 3) := by decide +kernel
theorem d_Re_append_49 : decode prog_8_method_2_code 49 = .ok (.return_, 1) := by decide +kernel
def w_Re_append {d : Nat} (hd : 1 ≤ d) := (show SS ("DebtDoors$Reader", prog_8_method_2_code, 3) (none) d 0 0 0 0 _ from (sS (p1 := 49) (sS (p1 := 3) (sIn 2 (xE (rB d_Re_append_0 rfl)) d_Re_append_2 rfl (by decide)) (sLp (ps := 43) (tt := 7) (pn := 49) (p1 := 0) (p2 := 0) (xC (rNot (rJ1 (tgt := 49) k_lt (rIn 2 d_Re_append_3 rfl) d_Re_append_4 (by decide)))) (sIf (pn := 43) (tt := 17) (xC (rNot (rJ2 (tgt := 43) j_ge (rF 2 fl_Re_22 nk_6_2 (rAn 0 d_Re_append_7 rfl) d_Re_append_8 rfl) (rSi d_Re_append_11 rfl) d_Re_append_14 (by decide)))) (sS (p1 := 33) (sAs (rFr fl_Re_9 nk_6_0 (rAn 0 d_Re_append_17 rfl) d_Re_append_18) (rF 2 fl_Re_22 nk_6_2 (rAn 0 d_Re_append_21 rfl) d_Re_append_22 rfl) (xE (r2 o_and (r2 o_ush (rIn 1 d_Re_append_25 rfl) (rIn 2 d_Re_append_26 rfl) d_Re_append_27) (rSi d_Re_append_28 rfl) d_Re_append_31)) d_Re_append_32) (sPo 2 o_add fl_Re_22 fp_6_2 nk_6_2 (rAn 0 d_Re_append_33 rfl) d_Re_append_34 d_Re_append_35 (rI d_Re_append_38 rfl) d_Re_append_39 d_Re_append_40 rfl))) (sGo (pn := 3) (sInc d_Re_append_43 (by decide)) d_Re_append_46 (by decide)))) (sRv d_Re_append_49 rfl)))
theorem m_Re_append : Cond.instanceMethod y_Re_append.1 ∈ zTb ∧ Cond.selects y_Re_append.1.cls y_Re_append.1 y_Re_append.1 ∈ zTb ∧ Cond.initialized y_Re_append.1.cls ∈ zTb ∧ Cond.code y_Re_append.1 y_Re_append.2.1 y_Re_append.2.2.1 y_Re_append.2.2.2 ∈ zTb ∧ (y_Re_append.1.cls ≠ "java/lang/invoke/MethodHandle" ∧ y_Re_append.1.cls ≠ "java/lang/invoke/VarHandle" ∧ (parseMethodDescriptor y_Re_append.1.desc).map (fun d => d.parameters.length) = some 1) ∧ y_Re_append.2.2.1 ≤ 20 :=
  ⟨(zTb_in 719 (by decide +kernel) (by decide +kernel)), (zTb_in 720 (by decide +kernel) (by decide +kernel)), (zTb_in 143 (by decide +kernel) (by decide +kernel)), (zTb_in 721 (by decide +kernel) (by decide +kernel)), by decide +kernel, by decide +kernel⟩
theorem lv_D_188 : zLv "DebtDoors" 188 y_Re_append 1 6 := ⟨⟨(zTb_in 718 (by decide +kernel) (by decide +kernel)), m_Re_append.1, m_Re_append.2.1, m_Re_append.2.2⟩, _, rfl, rfl⟩
def y_D_feed : zMt := (⟨"DebtDoors", "feed", "(IIIII)I"⟩, prog_1_method_11_code, 6, some .int)
theorem d_D_feed_0 : decode prog_1_method_11_code 0 = .ok (.aload_n 0, 1) := by decide +kernel
theorem d_D_feed_1 : decode prog_1_method_11_code 1 = .ok (.getfield 44, 3) := by decide +kernel
theorem d_D_feed_4 : decode prog_1_method_11_code 4 = .ok (.getfield 185, 3) := by decide +kernel
theorem d_D_feed_7 : decode prog_1_method_11_code 7 = .ok (.bipush 20, 2) := by decide +kernel
theorem d_D_feed_9 : decode prog_1_method_11_code 9 = .ok (.iadd, 1) := by decide +kernel
theorem d_D_feed_10 : decode prog_1_method_11_code 10 = .ok (.sipush 400, 3) := by decide +kernel
theorem d_D_feed_13 : decode prog_1_method_11_code 13 = .ok (.if_icmp .le 5, 3) := by decide +kernel
theorem d_D_feed_16 : decode prog_1_method_11_code 16 = .ok (.iconst (-1), 1) := by decide +kernel
theorem d_D_feed_17 : decode prog_1_method_11_code 17 = .ok (.ireturn, 1) := by decide +kernel
theorem d_D_feed_18 : decode prog_1_method_11_code 18 = .ok (.aload_n 0, 1) := by decide +kernel
theorem d_D_feed_19 : decode prog_1_method_11_code 19 = .ok (.getfield 44, 3) := by decide +kernel
theorem d_D_feed_22 : decode prog_1_method_11_code 22 = .ok (.iload_n 1, 1) := by decide +kernel
theorem d_D_feed_23 : decode prog_1_method_11_code 23 = .ok (.invokevirtual 188, 3) := by decide +kernel
theorem d_D_feed_26 : decode prog_1_method_11_code 26 = .ok (.aload_n 0, 1) := by decide +kernel
theorem d_D_feed_27 : decode prog_1_method_11_code 27 = .ok (.getfield 44, 3) := by decide +kernel
theorem d_D_feed_30 : decode prog_1_method_11_code 30 = .ok (.iload_n 2, 1) := by decide +kernel
theorem d_D_feed_31 : decode prog_1_method_11_code 31 = .ok (.invokevirtual 188, 3) := by decide +kernel
theorem d_D_feed_34 : decode prog_1_method_11_code 34 = .ok (.aload_n 0, 1) := by decide +kernel
theorem d_D_feed_35 : decode prog_1_method_11_code 35 = .ok (.getfield 44, 3) := by decide +kernel
theorem d_D_feed_38 : decode prog_1_method_11_code 38 = .ok (.iload_n 3, 1) := by decide +kernel
theorem d_D_feed_39 : decode prog_1_method_11_code 39 = .ok (.invokevirtual 188, 3) := by decide +kernel
theorem d_D_feed_42 : decode prog_1_method_11_code 42 = .ok (.aload_n 0, 1) := by decide +kernel
theorem d_D_feed_43 : decode prog_1_method_11_code 43 = .ok (.getfield 44, 3) := by decide +kernel
theorem d_D_feed_46 : decode prog_1_method_11_code 46 = .ok (.iload 4, 2) := by decide +kernel
theorem d_D_feed_48 : decode prog_1_method_11_code 48 = .ok (.invokevirtual 188, 3) := by decide +kernel
theorem d_D_feed_51 : decode prog_1_method_11_code 51 = .ok (.aload_n 0, 1) := by decide +kernel
theorem d_D_feed_52 : decode prog_1_method_11_code 52 = .ok (.getfield 44, 3) := by decide +kernel
theorem d_D_feed_55 : decode prog_1_method_11_code 55 = .ok (.iload 5, 2) := by decide +kernel
theorem d_D_feed_57 : decode prog_1_method_11_code 57 = .ok (.invokevirtual 188, 3) := by decide +kernel
theorem d_D_feed_60 : decode prog_1_method_11_code 60 = .ok (.aload_n 0, 1) := by decide +kernel
theorem d_D_feed_61 : decode prog_1_method_11_code 61 = .ok (.getfield 44, 3) := by decide +kernel
theorem d_D_feed_64 : decode prog_1_method_11_code 64 = .ok (.getfield 185, 3) := by decide +kernel
theorem d_D_feed_67 : decode prog_1_method_11_code 67 = .ok (.ireturn, 1) := by decide +kernel
def w_D_feed {d : Nat} (hd : 1 ≤ d) := (show SS ("DebtDoors", prog_1_method_11_code, 6) (some .int) d 0 0 0 0 _ from (sS (p1 := 18) (sIf (pn := 18) (tt := 16) (xC (rNot (rJ2 (tgt := 18) j_le (r2 o_add (rF 2 fl_D_185 nk_6_2 (rFr fl_D_44 nk_11_6 (rAn 0 d_D_feed_0 rfl) d_D_feed_1) d_D_feed_4 rfl) (rB d_D_feed_7 rfl) d_D_feed_9) (rSi d_D_feed_10 rfl) d_D_feed_13 (by decide)))) (sRi (xE (rI d_D_feed_16 rfl)) d_D_feed_17 rfl)) (sS (p1 := 26) (sV (xVv lv_D_188 (xA (rAi (rAr rA0 (rFr fl_D_44 nk_11_6 (rAn 0 d_D_feed_18 rfl) d_D_feed_19)) (rIn 1 d_D_feed_22 rfl))) (by decide) d_D_feed_23)) (sS (p1 := 34) (sV (xVv lv_D_188 (xA (rAi (rAr rA0 (rFr fl_D_44 nk_11_6 (rAn 0 d_D_feed_26 rfl) d_D_feed_27)) (rIn 2 d_D_feed_30 rfl))) (by decide) d_D_feed_31)) (sS (p1 := 42) (sV (xVv lv_D_188 (xA (rAi (rAr rA0 (rFr fl_D_44 nk_11_6 (rAn 0 d_D_feed_34 rfl) d_D_feed_35)) (rIn 3 d_D_feed_38 rfl))) (by decide) d_D_feed_39)) (sS (p1 := 51) (sV (xVv lv_D_188 (xA (rAi (rAr rA0 (rFr fl_D_44 nk_11_6 (rAn 0 d_D_feed_42 rfl) d_D_feed_43)) (rIl d_D_feed_46))) (by decide) d_D_feed_48)) (sS (p1 := 60) (sV (xVv lv_D_188 (xA (rAi (rAr rA0 (rFr fl_D_44 nk_11_6 (rAn 0 d_D_feed_51 rfl) d_D_feed_52)) (rIl d_D_feed_55))) (by decide) d_D_feed_57)) (sRi (xE (rF 2 fl_D_185 nk_6_2 (rFr fl_D_44 nk_11_6 (rAn 0 d_D_feed_60 rfl) d_D_feed_61) d_D_feed_64 rfl)) d_D_feed_67 rfl))))))))
theorem nk_12_10 : zNk 12 10 = none := rfl
def y_M_feed : zMt := (⟨"DebtDoorsModel", "feed", "(IIIII)I"⟩, prog_14_method_35_code, 7, some .int)
theorem d_M_feed_0 : decode prog_14_method_35_code 0 = .ok (.aload_n 0, 1) := by decide +kernel
theorem d_M_feed_1 : decode prog_14_method_35_code 1 = .ok (.getfield 181, 3) := by decide +kernel
theorem d_M_feed_4 : decode prog_14_method_35_code 4 = .ok (.bipush 20, 2) := by decide +kernel
theorem d_M_feed_6 : decode prog_14_method_35_code 6 = .ok (.iadd, 1) := by decide +kernel
theorem d_M_feed_7 : decode prog_14_method_35_code 7 = .ok (.sipush 400, 3) := by decide +kernel
theorem d_M_feed_10 : decode prog_14_method_35_code 10 = .ok (.if_icmp .le 5, 3) := by decide +kernel
theorem d_M_feed_13 : decode prog_14_method_35_code 13 = .ok (.iconst (-1), 1) := by decide +kernel
theorem d_M_feed_14 : decode prog_14_method_35_code 14 = .ok (.ireturn, 1) := by decide +kernel
theorem d_M_feed_15 : decode prog_14_method_35_code 15 = .ok (.aload_n 0, 1) := by decide +kernel
theorem d_M_feed_16 : decode prog_14_method_35_code 16 = .ok (.getfield 44, 3) := by decide +kernel
theorem d_M_feed_19 : decode prog_14_method_35_code 19 = .ok (.iconst 0, 1) := by decide +kernel
theorem d_M_feed_20 : decode prog_14_method_35_code 20 = .ok (.iload_n 1, 1) := by decide +kernel
theorem d_M_feed_21 : decode prog_14_method_35_code 21 = .ok (.iastore, 1) := by decide +kernel
theorem d_M_feed_22 : decode prog_14_method_35_code 22 = .ok (.aload_n 0, 1) := by decide +kernel
theorem d_M_feed_23 : decode prog_14_method_35_code 23 = .ok (.getfield 44, 3) := by decide +kernel
theorem d_M_feed_26 : decode prog_14_method_35_code 26 = .ok (.iconst 1, 1) := by decide +kernel
theorem d_M_feed_27 : decode prog_14_method_35_code 27 = .ok (.iload_n 2, 1) := by decide +kernel
theorem d_M_feed_28 : decode prog_14_method_35_code 28 = .ok (.iastore, 1) := by decide +kernel
theorem d_M_feed_29 : decode prog_14_method_35_code 29 = .ok (.aload_n 0, 1) := by decide +kernel
theorem d_M_feed_30 : decode prog_14_method_35_code 30 = .ok (.getfield 44, 3) := by decide +kernel
theorem d_M_feed_33 : decode prog_14_method_35_code 33 = .ok (.iconst 2, 1) := by decide +kernel
theorem d_M_feed_34 : decode prog_14_method_35_code 34 = .ok (.iload_n 3, 1) := by decide +kernel
theorem d_M_feed_35 : decode prog_14_method_35_code 35 = .ok (.iastore, 1) := by decide +kernel
theorem d_M_feed_36 : decode prog_14_method_35_code 36 = .ok (.aload_n 0, 1) := by decide +kernel
theorem d_M_feed_37 : decode prog_14_method_35_code 37 = .ok (.getfield 44, 3) := by decide +kernel
theorem d_M_feed_40 : decode prog_14_method_35_code 40 = .ok (.iconst 3, 1) := by decide +kernel
theorem d_M_feed_41 : decode prog_14_method_35_code 41 = .ok (.iload 4, 2) := by decide +kernel
theorem d_M_feed_43 : decode prog_14_method_35_code 43 = .ok (.iastore, 1) := by decide +kernel
theorem d_M_feed_44 : decode prog_14_method_35_code 44 = .ok (.aload_n 0, 1) := by decide +kernel
theorem d_M_feed_45 : decode prog_14_method_35_code 45 = .ok (.getfield 44, 3) := by decide +kernel
theorem d_M_feed_48 : decode prog_14_method_35_code 48 = .ok (.iconst 4, 1) := by decide +kernel
theorem d_M_feed_49 : decode prog_14_method_35_code 49 = .ok (.iload 5, 2) := by decide +kernel
theorem d_M_feed_51 : decode prog_14_method_35_code 51 = .ok (.iastore, 1) := by decide +kernel
theorem d_M_feed_52 : decode prog_14_method_35_code 52 = .ok (.iconst 0, 1) := by decide +kernel
theorem d_M_feed_53 : decode prog_14_method_35_code 53 = .ok (.istore 6, 2) := by decide +kernel
theorem d_M_feed_55 : decode prog_14_method_35_code 55 = .ok (.iload 6, 2) := by decide +kernel
theorem d_M_feed_57 : decode prog_14_method_35_code 57 = .ok (.bipush 20, 2) := by decide +kernel
theorem d_M_feed_59 : decode prog_14_method_35_code 59 = .ok (.if_icmp .ge 42, 3) := by decide +kernel
theorem d_M_feed_62 : decode prog_14_method_35_code 62 = .ok (.aload_n 0, 1) := by decide +kernel
theorem d_M_feed_63 : decode prog_14_method_35_code 63 = .ok (.getfield 41, 3) := by decide +kernel
theorem d_M_feed_66 : decode prog_14_method_35_code 66 = .ok (.aload_n 0, 1) := by decide +kernel
theorem d_M_feed_67 : decode prog_14_method_35_code 67 = .ok (.getfield 181, 3) := by decide +kernel
theorem d_M_feed_70 : decode prog_14_method_35_code 70 = .ok (.iload 6, 2) := by decide +kernel
theorem d_M_feed_72 : decode prog_14_method_35_code 72 = .ok (.iadd, 1) := by decide +kernel
theorem d_M_feed_73 : decode prog_14_method_35_code 73 = .ok (.aload_n 0, 1) := by decide +kernel
theorem d_M_feed_74 : decode prog_14_method_35_code 74 = .ok (.getfield 44, 3) := by decide +kernel
theorem d_M_feed_77 : decode prog_14_method_35_code 77 = .ok (.iload 6, 2) := by decide +kernel
theorem d_M_feed_79 : decode prog_14_method_35_code 79 = .ok (.iconst 4, 1) := by decide +kernel
theorem d_M_feed_80 : decode prog_14_method_35_code 80 = .ok (.idiv, 1) := by decide +kernel
theorem d_M_feed_81 : decode prog_14_method_35_code 81 = .ok (.iaload, 1) := by decide +kernel
theorem d_M_feed_82 : decode prog_14_method_35_code 82 = .ok (.bipush 24, 2) := by decide +kernel
theorem d_M_feed_84 : decode prog_14_method_35_code 84 = .ok (.bipush 8, 2) := by decide +kernel
theorem d_M_feed_86 : decode prog_14_method_35_code 86 = .ok (.iload 6, 2) := by decide +kernel
theorem d_M_feed_88 : decode prog_14_method_35_code 88 = .ok (.iconst 4, 1) := by decide +kernel
theorem d_M_feed_89 : decode prog_14_method_35_code 89 = .ok (.irem, 1) := by decide +kernel
theorem d_M_feed_90 : decode prog_14_method_35_code 90 = .ok (.imul, 1) := by decide +kernel
theorem d_M_feed_91 : decode prog_14_method_35_code 91 = .ok (.isub, 1) := by decide +kernel
theorem d_M_feed_92 : decode prog_14_method_35_code 92 = .ok (.ishr, 1) := by decide +kernel
theorem d_M_feed_93 : decode prog_14_method_35_code 93 = .ok (.i2b, 1) := by decide +kernel
theorem d_M_feed_94 : decode prog_14_method_35_code 94 = .ok (.bastore, 1) := by decide +kernel
theorem d_M_feed_95 : decode prog_14_method_35_code 95 = .ok (.iinc 6 1, 3) := by decide +kernel
theorem d_M_feed_98 : decode prog_14_method_35_code 98 = .ok (.goto (-43), 3) := by decide +kernel
theorem d_M_feed_101 : decode prog_14_method_35_code 101 = .ok (.aload_n 0, 1) := by decide +kernel
theorem d_M_feed_102 : decode prog_14_method_35_code 102 = .ok (.dup, 1) := by decide +kernel
theorem d_M_feed_103 : decode prog_14_method_35_code 103 = .ok (.getfield 181, 3) := by decide +kernel
theorem d_M_feed_106 : decode prog_14_method_35_code 106 = .ok (.bipush 20, 2) := by decide +kernel
theorem d_M_feed_108 : decode prog_14_method_35_code 108 = .ok (.iadd, 1) := by decide +kernel
theorem d_M_feed_109 : decode prog_14_method_35_code 109 = .ok (.putfield 181, 3) := by decide +kernel
theorem d_M_feed_112 : decode prog_14_method_35_code 112 = .ok (.aload_n 0, 1) := by decide +kernel
theorem d_M_feed_113 : decode prog_14_method_35_code 113 = .ok (.getfield 181, 3) := by decide +kernel
theorem d_M_feed_116 : decode prog_14_method_35_code 116 = .ok (.ireturn, 1) := by decide +kernel
def w_M_feed {d : Nat} (hd : 1 ≤ d) := (show SS ("DebtDoorsModel", prog_14_method_35_code, 7) (some .int) d 0 0 0 0 _ from (sS (p1 := 15) (sIf (pn := 15) (tt := 13) (xC (rNot (rJ2 (tgt := 15) j_le (r2 o_add (rF 11 fl_M_181 nk_12_11 (rAn 0 d_M_feed_0 rfl) d_M_feed_1 rfl) (rB d_M_feed_4 rfl) d_M_feed_6) (rSi d_M_feed_7 rfl) d_M_feed_10 (by decide)))) (sRi (xE (rI d_M_feed_13 rfl)) d_M_feed_14 rfl)) (sS (p1 := 22) (sAs (rFr fl_M_44 nk_12_10 (rAn 0 d_M_feed_15 rfl) d_M_feed_16) (rI d_M_feed_19 rfl) (xE (rIn 1 d_M_feed_20 rfl)) d_M_feed_21) (sS (p1 := 29) (sAs (rFr fl_M_44 nk_12_10 (rAn 0 d_M_feed_22 rfl) d_M_feed_23) (rI d_M_feed_26 rfl) (xE (rIn 2 d_M_feed_27 rfl)) d_M_feed_28) (sS (p1 := 36) (sAs (rFr fl_M_44 nk_12_10 (rAn 0 d_M_feed_29 rfl) d_M_feed_30) (rI d_M_feed_33 rfl) (xE (rIn 3 d_M_feed_34 rfl)) d_M_feed_35) (sS (p1 := 44) (sAs (rFr fl_M_44 nk_12_10 (rAn 0 d_M_feed_36 rfl) d_M_feed_37) (rI d_M_feed_40 rfl) (xE (rIl d_M_feed_41)) d_M_feed_43) (sS (p1 := 52) (sAs (rFr fl_M_44 nk_12_10 (rAn 0 d_M_feed_44 rfl) d_M_feed_45) (rI d_M_feed_48 rfl) (xE (rIl d_M_feed_49)) d_M_feed_51) (sS (p1 := 101) (sS (p1 := 55) (sI (xE (rI d_M_feed_52 rfl)) d_M_feed_53 (by decide)) (sLp (ps := 95) (tt := 62) (pn := 101) (p1 := 0) (p2 := 0) (xC (rNot (rJ2 (tgt := 101) j_ge (rIl d_M_feed_55) (rB d_M_feed_57 rfl) d_M_feed_59 (by decide)))) (sBs (rFr fl_M_41 nk_12_9 (rAn 0 d_M_feed_62 rfl) d_M_feed_63) (r2 o_add (rF 11 fl_M_181 nk_12_11 (rAn 0 d_M_feed_66 rfl) d_M_feed_67 rfl) (rIl d_M_feed_70) d_M_feed_72) (xE (rIb (r2 o_shr (rIa (rFr fl_M_44 nk_12_10 (rAn 0 d_M_feed_73 rfl) d_M_feed_74) (r2 o_div (rIl d_M_feed_77) (rI d_M_feed_79 rfl) d_M_feed_80) d_M_feed_81) (r2 o_sub (rB d_M_feed_82 rfl) (r2 o_mul (rB d_M_feed_84 rfl) (r2 o_rem (rIl d_M_feed_86) (rI d_M_feed_88 rfl) d_M_feed_89) d_M_feed_90) d_M_feed_91) d_M_feed_92) d_M_feed_93)) d_M_feed_94) (sGo (pn := 55) (sInc d_M_feed_95 (by decide)) d_M_feed_98 (by decide)))) (sS (p1 := 112) (sPo 11 o_add fl_M_181 fp_12_11 nk_12_11 (rAn 0 d_M_feed_101 rfl) d_M_feed_102 d_M_feed_103 (rB d_M_feed_106 rfl) d_M_feed_108 d_M_feed_109 rfl) (sRi (xE (rF 11 fl_M_181 nk_12_11 (rAn 0 d_M_feed_112 rfl) d_M_feed_113 rfl)) d_M_feed_116 rfl))))))))))
def y_D_end : zMt := (⟨"DebtDoors", "end", "(I)I"⟩, prog_1_method_12_code, 2, some .int)
theorem d_D_end_0 : decode prog_1_method_12_code 0 = .ok (.iload_n 1, 1) := by decide +kernel
theorem d_D_end_1 : decode prog_1_method_12_code 1 = .ok (.ifCond .lt 14, 3) := by decide +kernel
theorem d_D_end_4 : decode prog_1_method_12_code 4 = .ok (.iload_n 1, 1) := by decide +kernel
theorem d_D_end_5 : decode prog_1_method_12_code 5 = .ok (.aload_n 0, 1) := by decide +kernel
theorem d_D_end_6 : decode prog_1_method_12_code 6 = .ok (.getfield 44, 3) := by decide +kernel
theorem d_D_end_9 : decode prog_1_method_12_code 9 = .ok (.getfield 185, 3) := by decide +kernel
theorem d_D_end_12 : decode prog_1_method_12_code 12 = .ok (.if_icmp .le 5, 3) := by decide +kernel
theorem d_D_end_15 : decode prog_1_method_12_code 15 = .ok (.iconst (-1), 1) := by decide +kernel
theorem d_D_end_16 : decode prog_1_method_12_code 16 = .ok (.ireturn, 1) := by decide +kernel
theorem d_D_end_17 : decode prog_1_method_12_code 17 = .ok (.aload_n 0, 1) := by decide +kernel
theorem d_D_end_18 : decode prog_1_method_12_code 18 = .ok (.getfield 44, 3) := by decide +kernel
theorem d_D_end_21 : decode prog_1_method_12_code 21 = .ok (.iload_n 1, 1) := by decide +kernel
theorem d_D_end_22 : decode prog_1_method_12_code 22 = .ok (.putfield 185, 3) := by decide +kernel
theorem d_D_end_25 : decode prog_1_method_12_code 25 = .ok (.iload_n 1, 1) := by decide +kernel
theorem d_D_end_26 : decode prog_1_method_12_code 26 = .ok (.ireturn, 1) := by decide +kernel
def w_D_end {d : Nat} (hd : 1 ≤ d) := (show SS ("DebtDoors", prog_1_method_12_code, 2) (some .int) d 0 0 0 0 _ from (sS (p1 := 17) (sIf (pn := 17) (tt := 15) (xC (rOr (mm := 4) (rJ1 (tgt := 15) k_lt (rIn 1 d_D_end_0 rfl) d_D_end_1 (by decide)) (rNot (rJ2 (tgt := 17) j_le (rIn 1 d_D_end_4 rfl) (rF 2 fl_D_185 nk_6_2 (rFr fl_D_44 nk_11_6 (rAn 0 d_D_end_5 rfl) d_D_end_6) d_D_end_9 rfl) d_D_end_12 (by decide))))) (sRi (xE (rI d_D_end_15 rfl)) d_D_end_16 rfl)) (sS (p1 := 25) (sP 2 fl_D_185 fp_6_2 nk_6_2 (rFr fl_D_44 nk_11_6 (rAn 0 d_D_end_17 rfl) d_D_end_18) (xE (rIn 1 d_D_end_21 rfl)) d_D_end_22 rfl) (sRi (xE (rIn 1 d_D_end_25 rfl)) d_D_end_26 rfl))))
def y_M_end : zMt := (⟨"DebtDoorsModel", "end", "(I)I"⟩, prog_14_method_36_code, 2, some .int)
theorem d_M_end_0 : decode prog_14_method_36_code 0 = .ok (.iload_n 1, 1) := by decide +kernel
theorem d_M_end_1 : decode prog_14_method_36_code 1 = .ok (.iconst 0, 1) := by decide +kernel
theorem d_M_end_2 : decode prog_14_method_36_code 2 = .ok (.aload_n 0, 1) := by decide +kernel
theorem d_M_end_3 : decode prog_14_method_36_code 3 = .ok (.getfield 181, 3) := by decide +kernel
theorem d_M_end_6 : decode prog_14_method_36_code 6 = .ok (.invokestatic 123, 3) := by decide +kernel
theorem d_M_end_9 : decode prog_14_method_36_code 9 = .ok (.ifCond .ne 5, 3) := by decide +kernel
theorem d_M_end_12 : decode prog_14_method_36_code 12 = .ok (.iconst (-1), 1) := by decide +kernel
theorem d_M_end_13 : decode prog_14_method_36_code 13 = .ok (.ireturn, 1) := by decide +kernel
theorem d_M_end_14 : decode prog_14_method_36_code 14 = .ok (.aload_n 0, 1) := by decide +kernel
theorem d_M_end_15 : decode prog_14_method_36_code 15 = .ok (.iload_n 1, 1) := by decide +kernel
theorem d_M_end_16 : decode prog_14_method_36_code 16 = .ok (.putfield 181, 3) := by decide +kernel
theorem d_M_end_19 : decode prog_14_method_36_code 19 = .ok (.iload_n 1, 1) := by decide +kernel
theorem d_M_end_20 : decode prog_14_method_36_code 20 = .ok (.ireturn, 1) := by decide +kernel
def w_M_end {d : Nat} (hd : 2 ≤ d) := (show SS ("DebtDoorsModel", prog_14_method_36_code, 2) (some .int) d 0 0 0 0 _ from (sS (p1 := 14) (sIf (pn := 14) (tt := 12) (xC (rNot (rJ1 (tgt := 14) k_ne (rS p_M_lies (Nat.le_trans (Nat.le_of_ble_eq_true rfl) hd) ls_M_123 (rAi (rAi (rAi rA0 (rIn 1 d_M_end_0 rfl)) (rI d_M_end_1 rfl)) (rF 11 fl_M_181 nk_12_11 (rAn 0 d_M_end_2 rfl) d_M_end_3 rfl)) (by decide) d_M_end_6) d_M_end_9 (by decide)))) (sRi (xE (rI d_M_end_12 rfl)) d_M_end_13 rfl)) (sS (p1 := 19) (sP 11 fl_M_181 fp_12_11 nk_12_11 (rAn 0 d_M_end_14 rfl) (xE (rIn 1 d_M_end_15 rfl)) d_M_end_16 rfl) (sRi (xE (rIn 1 d_M_end_19 rfl)) d_M_end_20 rfl))))
def byF (x k : Int) : Int := zand (zush x (24 - 8 * k)) 255
theorem byF_s {x : Int} {s : Nat} (hs : s = 0 ∨ s = 8 ∨ s = 16 ∨ s = 24) : zi2b (zshr x (s : Int)) = sgn (zand (zush x (s : Int)) 255) ∧ 0 ≤ zand (zush x (s : Int)) 255 ∧ zand (zush x (s : Int)) 255 ≤ 255 := by
  have hs32 : s < 32 := by omega
  obtain ⟨X, hX⟩ : ∃ X : BitVec 32, (Int32.ofInt x).toBitVec = X := ⟨_, rfl⟩
  have hn := X.isLt
  have k1 : (((Int32.ofInt (s : Int)) &&& 31).toBitVec.smod 32).toNat = s := by
    have := List.all_eq_true.mp zk31 s (List.mem_range.mpr hs32)
    simpa using this
  have h1 : zshr x (s : Int) = (X.sshiftRight s).toInt := by
    show ((Int32.ofInt x).toBitVec.sshiftRight (((Int32.ofInt (s : Int)) &&& 31).toBitVec.smod 32).toNat).toInt = _
    rw [k1, hX]
  have h2 : zi2b (zshr x (s : Int)) = (X.toInt / 2 ^ s).bmod 256 := by
    rw [h1]
    show ((BitVec.ofInt 32 (X.sshiftRight s).toInt).signExtend 8).toInt = _
    rw [BitVec.ofInt_toInt, BitVec.toInt_signExtend, BitVec.toInt_sshiftRight, Int.shiftRight_eq_div_pow]
    first | done | rfl
  have h3 : zand (zush x (s : Int)) 255 = ((X.toNat / 2 ^ s % 256 : Nat) : Int) := by
    have k2 : ((Int32.ofInt (s : Int)).toUInt32 &&& Int32.toUInt32 31).toNat = s := by
      have : (List.range 32).all (fun k => ((Int32.ofInt (k : Int)).toUInt32 &&& Int32.toUInt32 31).toNat == k) = true := by decide +kernel
      have := List.all_eq_true.mp this s (List.mem_range.mpr hs32)
      simpa using this
    have k3 : (Int32.ofInt (zush x (s : Int))).toBitVec.toNat = X.toNat / 2 ^ s := by
      show (BitVec.ofInt 32 (((Int32.ofInt x).toUInt32 >>> ((Int32.ofInt (s : Int)).toUInt32 &&& Int32.toUInt32 31)).toInt32.toBitVec.toInt)).toNat = _
      rw [BitVec.ofInt_toInt]
      show ((Int32.ofInt x).toUInt32 >>> ((Int32.ofInt (s : Int)).toUInt32 &&& Int32.toUInt32 31)).toNat = _
      rw [UInt32.toNat_shiftRight, k2, Nat.mod_eq_of_lt hs32, Nat.shiftRight_eq_div_pow, show (Int32.ofInt x).toUInt32.toNat = X.toNat by rw [← hX]; rfl]
    show ((Int32.ofInt (zush x (s : Int))).toBitVec &&& (Int32.ofInt 255).toBitVec).toInt = _
    refine zbi ?_ (by omega)
    rw [BitVec.toNat_and, k3, show (Int32.ofInt 255).toBitVec.toNat = 2 ^ 8 - 1 by decide, Nat.and_two_pow_sub_one_eq_mod]
    first | done | rfl
  rw [h2, h3, BitVec.toInt_eq_toNat_cond]
  refine ⟨?_, by omega, by omega⟩
  unfold sgn
  rcases hs with rfl | rfl | rfl | rfl
  all_goals
    simp only [Int.bmod, Nat.reducePow, Int.reducePow, Nat.reduceMul]
    split <;> split <;> split <;> omega
theorem byF_e {x k : Int} (h : 0 ≤ k ∧ k < 4) : zi2b (zshr x (24 - 8 * k)) = sgn (byF x k) ∧ 0 ≤ byF x k ∧ byF x k ≤ 255 := by
  unfold byF
  rw [show (24 - 8 * k : Int) = (((24 - 8 * k).toNat : Nat) : Int) by omega]
  exact byF_s (by omega)
theorem q_Re_append {d : Nat} (hd : 1 ≤ d) {μ : zMem} {x n : Int} (hn : μ 321 2 = n) (h : 0 ≤ n ∧ n + 4 ≤ 400) : zSp d 0 0 y_Re_append zT0 [vr 321, vi x] μ zT0 (fun q μ' => q = none ∧ μ' 321 2 = n + 4 ∧ (∀ i : Int, μ' 322 i = zit (n ≤ i ∧ i < n + 4) (byF x (i - n)) (μ 322 i)) ∧ (∀ j : Int, j ≠ 2 → μ' 321 j = μ 321 j) ∧ zfc [321, 322] μ μ') := by
  refine zSp.ss [vr 321, vi x, vx 0] rfl (w_Re_append hd) rfl rfl ?_
  (try simp only [zit_e, Bool.and_eq_true, Bool.or_eq_true, Bool.not_eq_true', Bool.and_eq_false_iff, Bool.or_eq_false_iff, Bool.not_eq_false', zbe, zdt, zdf, zb2_p, zbp_0, zbp_1, zbp_inj, zbp_01, Bool.true_eq_false, Bool.false_eq_true, true_and, and_true, Decidable.not_not, Classical.not_not, implies_true, List.nil_append, List.cons_append, List.append_assoc, Option.some.injEq, Sum.inl.injEq, zSw_c, zSw_n]); (try simp only [zit_e, Bool.and_eq_true, Bool.or_eq_true, Bool.not_eq_true', Bool.and_eq_false_iff, Bool.or_eq_false_iff, Bool.not_eq_false', zbe, zdt, zdf, zb2_p, zbp_0, zbp_1, zbp_inj, zbp_01, Bool.true_eq_false, Bool.false_eq_true, true_and, and_true, Decidable.not_not, Classical.not_not, implies_true, List.nil_append, List.cons_append, List.append_assoc, Option.some.injEq, Sum.inl.injEq, zSw_c, zSw_n, zc_321]); (try simp only [zi_cs, zi_c0, zii_cs, zii_c0, zl_cs, zl_c0, zll_cs, zll_c0, zr_cs, zr_c0, zrr_cs, zrr_c0, zxs_cs, zxs_c0, zxx_cs, zxx_c0, zfree_c0, zfree_c1, zfree_cs, zfree_cz, zlong_i, zlong_r, zlong_x, zset_0, zset_s, true_and, and_true, Option.some.injEq, Sum.inl.injEq, Sum.inr.injEq, zb2_p, zbp_0, zbp_1, zbp_inj, zbp_01, Nat.zero_add, Nat.reduceAdd, implies_true, List.nil_append, List.cons_append, List.append_assoc, Int.not_lt, Int.not_le, Decidable.not_not, Int.zero_add, Int.reduceLE, Int.reduceLT, Int.reduceEq, Int.reduceNe, Int.reduceAdd, Int.reduceSub, Int.reduceMul, Int.reduceNeg, Int.reduceToNat, Nat.reduceMul, Nat.reduceLT, Nat.reduceEqDiff, and_self, ite_true, ite_false, zx1, zx2, zRecv, List.length_cons, List.length_nil, ne_eq, not_true_eq_false, not_false_eq_true, true_or, or_true, or_false, false_or, and_false, false_and, zf01, zf10, reduceCtorEq, zSw_c, zSw_n, zm_r, zit_T, zit_F, false_implies, true_implies, zc_321])
  refine zLoop.up 4 (fun j ρ μ1 => ρ = [vr 321, vi x, vi (24 - 8 * j)] ∧ μ1 321 2 = n + j ∧ (∀ i : Int, μ1 322 i = zit (n ≤ i ∧ i < n + j) (byF x (i - n)) (μ 322 i)) ∧ (∀ k : Int, k ≠ 2 → μ1 321 k = μ 321 k) ∧ zfc [321, 322] μ μ1) ⟨rfl, by omega, fun i => by rw [zit_f (by omega)], fun _ _ => rfl, zfc.rf⟩ ?_
  rintro j ρ μ1 hj ⟨rfl, e1, e2, e3, e4⟩
  (try simp only [zit_e, Bool.and_eq_true, Bool.or_eq_true, Bool.not_eq_true', Bool.and_eq_false_iff, Bool.or_eq_false_iff, Bool.not_eq_false', zbe, zdt, zdf, zb2_p, zbp_0, zbp_1, zbp_inj, zbp_01, Bool.true_eq_false, Bool.false_eq_true, true_and, and_true, Decidable.not_not, Classical.not_not, implies_true, List.nil_append, List.cons_append, List.append_assoc, Option.some.injEq, Sum.inl.injEq, zSw_c, zSw_n]); (try simp only [zit_e, Bool.and_eq_true, Bool.or_eq_true, Bool.not_eq_true', Bool.and_eq_false_iff, Bool.or_eq_false_iff, Bool.not_eq_false', zbe, zdt, zdf, zb2_p, zbp_0, zbp_1, zbp_inj, zbp_01, Bool.true_eq_false, Bool.false_eq_true, true_and, and_true, Decidable.not_not, Classical.not_not, implies_true, List.nil_append, List.cons_append, List.append_assoc, Option.some.injEq, Sum.inl.injEq, zSw_c, zSw_n, zc_321]); (try simp only [zi_cs, zi_c0, zii_cs, zii_c0, zl_cs, zl_c0, zll_cs, zll_c0, zr_cs, zr_c0, zrr_cs, zrr_c0, zxs_cs, zxs_c0, zxx_cs, zxx_c0, zfree_c0, zfree_c1, zfree_cs, zfree_cz, zlong_i, zlong_r, zlong_x, zset_0, zset_s, true_and, and_true, Option.some.injEq, Sum.inl.injEq, Sum.inr.injEq, zb2_p, zbp_0, zbp_1, zbp_inj, zbp_01, Nat.zero_add, Nat.reduceAdd, implies_true, List.nil_append, List.cons_append, List.append_assoc, Int.not_lt, Int.not_le, Decidable.not_not, Int.zero_add, Int.reduceLE, Int.reduceLT, Int.reduceEq, Int.reduceNe, Int.reduceAdd, Int.reduceSub, Int.reduceMul, Int.reduceNeg, Int.reduceToNat, Nat.reduceMul, Nat.reduceLT, Nat.reduceEqDiff, and_self, ite_true, ite_false, zx1, zx2, zRecv, List.length_cons, List.length_nil, ne_eq, not_true_eq_false, not_false_eq_true, true_or, or_true, or_false, false_or, and_false, false_and, zf01, zf10, reduceCtorEq, zSw_c, zSw_n, zm_r, zit_T, zit_F, false_implies, true_implies, zc_321])
  rw [e1]
  refine zif (fun c => ?_) (fun c => ?_)
  · refine zif (fun c2 => ?_) (fun c2 => by omega)
    refine ⟨by omega, by omega, by ((try simp only [zI_e]); (first | done | omega | skip)), by ((try simp only [zI_e]); (first | done | omega | skip)), znx (by omega) ⟨by rw [show (24 : Int) - 8 * j + -8 = 24 - 8 * ((j + 1 : Nat) : Int) by omega], ?_, fun i => ?_, fun k hk => ?_, (e4.zm (by decide)).zm (by decide)⟩⟩
    · omega
    · rw [e2]
      unfold byF
      by_cases ei : i = n + j
      · rw [zit_t ei, zit_t (by omega), show i - n = (j : Int) by omega]
      · rw [zit_f ei]
        by_cases e5 : n ≤ i ∧ i < n + j
        · rw [zit_t e5, zit_t (by omega)]
        · rw [zit_f e5, zit_f (by omega)]
    · rw [zit_f hk]
      exact e3 k hk
  · have : j = 4 := by omega
    subst this
    exact ⟨rfl, e2, e3, e4⟩
noncomputable def fvF (a b c e f k : Int) : Int := zit (k = 0) a (zit (k = 1) b (zit (k = 2) c (zit (k = 3) e f)))
noncomputable def tyF (a b c e f k : Int) : Int := byF (fvF a b c e f (k / 4)) (k % 4)
theorem tyF_in {a b c e f k : Int} : 0 ≤ tyF a b c e f k ∧ tyF a b c e f k ≤ 255 := (byF_e (x := fvF a b c e f (k / 4)) (k := k % 4) (by omega)).2
theorem tyF_1 {a b c e f k : Int} (h : 0 ≤ k ∧ k < 20) : tyF a b c e f k = zit (k < 4) (byF a k) (zit (k < 8) (byF b (k - 4)) (zit (k < 12) (byF c (k - 8)) (zit (k < 16) (byF e (k - 12)) (byF f (k - 16))))) := by
  unfold tyF fvF
  by_cases c1 : k < 4
  · rw [zit_t c1, zit_t (by omega), show k % 4 = k by omega]
  rw [zit_f c1, zit_f (by omega)]
  by_cases c2 : k < 8
  · rw [zit_t c2, zit_t (by omega), show k % 4 = k - 4 by omega]
  rw [zit_f c2, zit_f (by omega)]
  by_cases c3 : k < 12
  · rw [zit_t c3, zit_t (by omega), show k % 4 = k - 8 by omega]
  rw [zit_f c3, zit_f (by omega)]
  by_cases c4 : k < 16
  · rw [zit_t c4, zit_t (by omega), show k % 4 = k - 12 by omega]
  rw [zit_f c4, zit_f (by omega), show k % 4 = k - 16 by omega]
theorem q_D_feed {d : Nat} (hd : 3 ≤ d) {μ : zMem} {a b c e f n : Int} (hn : μ 321 2 = n) (h : 0 ≤ n ∧ n ≤ 400) : zSp d 0 0 y_D_feed zT0 [vr 0, vi a, vi b, vi c, vi e, vi f] μ zT0 (fun q μ' => (400 < n + 20 → q = some (vi (-1)) ∧ μ' = μ) ∧ (n + 20 ≤ 400 → q = some (vi (n + 20)) ∧ μ' 321 2 = n + 20 ∧ (∀ i : Int, μ' 322 i = zit (n ≤ i ∧ i < n + 20) (tyF a b c e f (i - n)) (μ 322 i)) ∧ (∀ j : Int, j ≠ 2 → μ' 321 j = μ 321 j) ∧ zfc [321, 322] μ μ')) := by
  refine zSp.ss [vr 0, vi a, vi b, vi c, vi e, vi f] rfl (w_D_feed (Nat.le_trans (by decide) hd)) rfl rfl ?_
  (try simp only [zit_e, Bool.and_eq_true, Bool.or_eq_true, Bool.not_eq_true', Bool.and_eq_false_iff, Bool.or_eq_false_iff, Bool.not_eq_false', zbe, zdt, zdf, zb2_p, zbp_0, zbp_1, zbp_inj, zbp_01, Bool.true_eq_false, Bool.false_eq_true, true_and, and_true, Decidable.not_not, Classical.not_not, implies_true, List.nil_append, List.cons_append, List.append_assoc, Option.some.injEq, Sum.inl.injEq, zSw_c, zSw_n]); (try simp only [zit_e, Bool.and_eq_true, Bool.or_eq_true, Bool.not_eq_true', Bool.and_eq_false_iff, Bool.or_eq_false_iff, Bool.not_eq_false', zbe, zdt, zdf, zb2_p, zbp_0, zbp_1, zbp_inj, zbp_01, Bool.true_eq_false, Bool.false_eq_true, true_and, and_true, Decidable.not_not, Classical.not_not, implies_true, List.nil_append, List.cons_append, List.append_assoc, Option.some.injEq, Sum.inl.injEq, zSw_c, zSw_n, zc_0, zc_321]); (try simp only [zi_cs, zi_c0, zii_cs, zii_c0, zl_cs, zl_c0, zll_cs, zll_c0, zr_cs, zr_c0, zrr_cs, zrr_c0, zxs_cs, zxs_c0, zxx_cs, zxx_c0, zfree_c0, zfree_c1, zfree_cs, zfree_cz, zlong_i, zlong_r, zlong_x, zset_0, zset_s, true_and, and_true, Option.some.injEq, Sum.inl.injEq, Sum.inr.injEq, zb2_p, zbp_0, zbp_1, zbp_inj, zbp_01, Nat.zero_add, Nat.reduceAdd, implies_true, List.nil_append, List.cons_append, List.append_assoc, Int.not_lt, Int.not_le, Decidable.not_not, Int.zero_add, Int.reduceLE, Int.reduceLT, Int.reduceEq, Int.reduceNe, Int.reduceAdd, Int.reduceSub, Int.reduceMul, Int.reduceNeg, Int.reduceToNat, Nat.reduceMul, Nat.reduceLT, Nat.reduceEqDiff, and_self, ite_true, ite_false, zx1, zx2, zRecv, List.length_cons, List.length_nil, ne_eq, not_true_eq_false, not_false_eq_true, true_or, or_true, or_false, false_or, and_false, false_and, zf01, zf10, reduceCtorEq, zSw_c, zSw_n, zm_r, zit_T, zit_F, false_implies, true_implies, zc_0, zc_321])
  rw [hn]
  refine ⟨by ((try simp only [zI_e]); (first | done | omega | skip)), ?_⟩
  refine zif (fun c1 => fun c2 => by omega) (fun c1 => ?_)
  refine zCw.use (q_Re_append (d := 1) (by decide) hn (by omega)) (by omega) (fun q μ1 e1 => ?_)
  obtain ⟨rfl, a1, a2, a3, a4⟩ := e1
  refine ⟨rfl, zCw.use (q_Re_append (d := 1) (by decide) a1 (by omega)) (by omega) (fun q μ2 e1 => ?_)⟩
  obtain ⟨rfl, b1, b2, b3, b4⟩ := e1
  refine ⟨rfl, zCw.use (q_Re_append (d := 1) (by decide) b1 (by omega)) (by omega) (fun q μ3 e1 => ?_)⟩
  obtain ⟨rfl, c1, c2, c3, c4⟩ := e1
  refine ⟨rfl, zCw.use (q_Re_append (d := 1) (by decide) c1 (by omega)) (by omega) (fun q μ4 e1 => ?_)⟩
  obtain ⟨rfl, d1, d2, d3, d4⟩ := e1
  refine ⟨rfl, zCw.use (q_Re_append (d := 1) (by decide) d1 (by omega)) (by omega) (fun q μ5 e1 => ?_)⟩
  obtain ⟨rfl, f1, f2, f3, f4⟩ := e1
  refine ⟨rfl, fun q => by omega, fun _ => ⟨by omega, by omega, fun i => ?_, fun j hj => by rw [f3 j hj, d3 j hj, c3 j hj, b3 j hj, a3 j hj], ((((a4.tr b4).tr c4).tr d4).tr f4).mo (by simp)⟩⟩
  rw [f2, d2, c2, b2, a2]
  by_cases g : n ≤ i ∧ i < n + 20
  · rw [zit_t g, tyF_1 (by omega)]
    by_cases c1 : i - n < 4
    · rw [zit_t c1, zit_f (by omega), zit_f (by omega), zit_f (by omega), zit_f (by omega), zit_t (by omega)]
    rw [zit_f c1]
    by_cases c2 : i - n < 8
    · rw [zit_t c2, zit_f (by omega), zit_f (by omega), zit_f (by omega), zit_t (by omega), show i - (n + 4) = i - n - 4 by omega]
    rw [zit_f c2]
    by_cases c3 : i - n < 12
    · rw [zit_t c3, zit_f (by omega), zit_f (by omega), zit_t (by omega), show i - (n + 4 + 4) = i - n - 8 by omega]
    rw [zit_f c3]
    by_cases c4 : i - n < 16
    · rw [zit_t c4, zit_f (by omega), zit_t (by omega), show i - (n + 4 + 4 + 4) = i - n - 12 by omega]
    rw [zit_f c4, zit_t (by omega), show i - (n + 4 + 4 + 4 + 4) = i - n - 16 by omega]
  · rw [zit_f g, zit_f (by omega), zit_f (by omega), zit_f (by omega), zit_f (by omega), zit_f (by omega)]
theorem q_M_feed {d : Nat} (hd : 1 ≤ d) {μ : zMem} {a b c e f n : Int} (hn : μ 355 11 = n) (h : 0 ≤ n ∧ n ≤ 400) : zSp d 0 0 y_M_feed zT0 [vr 355, vi a, vi b, vi c, vi e, vi f] μ zT0 (fun q μ' => (400 < n + 20 → q = some (vi (-1)) ∧ μ' = μ) ∧ (n + 20 ≤ 400 → q = some (vi (n + 20)) ∧ μ' 355 11 = n + 20 ∧ (∀ i : Int, μ' 362 i = zit (n ≤ i ∧ i < n + 20) (sgn (tyF a b c e f (i - n))) (μ 362 i)) ∧ (∀ j : Int, j ≠ 11 → μ' 355 j = μ 355 j) ∧ zfc [355, 362, 363] μ μ')) := by
  refine zSp.ss [vr 355, vi a, vi b, vi c, vi e, vi f, vx 0] rfl (w_M_feed hd) rfl rfl ?_
  (try simp only [zit_e, Bool.and_eq_true, Bool.or_eq_true, Bool.not_eq_true', Bool.and_eq_false_iff, Bool.or_eq_false_iff, Bool.not_eq_false', zbe, zdt, zdf, zb2_p, zbp_0, zbp_1, zbp_inj, zbp_01, Bool.true_eq_false, Bool.false_eq_true, true_and, and_true, Decidable.not_not, Classical.not_not, implies_true, List.nil_append, List.cons_append, List.append_assoc, Option.some.injEq, Sum.inl.injEq, zSw_c, zSw_n]); (try simp only [zit_e, Bool.and_eq_true, Bool.or_eq_true, Bool.not_eq_true', Bool.and_eq_false_iff, Bool.or_eq_false_iff, Bool.not_eq_false', zbe, zdt, zdf, zb2_p, zbp_0, zbp_1, zbp_inj, zbp_01, Bool.true_eq_false, Bool.false_eq_true, true_and, and_true, Decidable.not_not, Classical.not_not, implies_true, List.nil_append, List.cons_append, List.append_assoc, Option.some.injEq, Sum.inl.injEq, zSw_c, zSw_n, zc_355]); (try simp only [zi_cs, zi_c0, zii_cs, zii_c0, zl_cs, zl_c0, zll_cs, zll_c0, zr_cs, zr_c0, zrr_cs, zrr_c0, zxs_cs, zxs_c0, zxx_cs, zxx_c0, zfree_c0, zfree_c1, zfree_cs, zfree_cz, zlong_i, zlong_r, zlong_x, zset_0, zset_s, true_and, and_true, Option.some.injEq, Sum.inl.injEq, Sum.inr.injEq, zb2_p, zbp_0, zbp_1, zbp_inj, zbp_01, Nat.zero_add, Nat.reduceAdd, implies_true, List.nil_append, List.cons_append, List.append_assoc, Int.not_lt, Int.not_le, Decidable.not_not, Int.zero_add, Int.reduceLE, Int.reduceLT, Int.reduceEq, Int.reduceNe, Int.reduceAdd, Int.reduceSub, Int.reduceMul, Int.reduceNeg, Int.reduceToNat, Nat.reduceMul, Nat.reduceLT, Nat.reduceEqDiff, and_self, ite_true, ite_false, zx1, zx2, zRecv, List.length_cons, List.length_nil, ne_eq, not_true_eq_false, not_false_eq_true, true_or, or_true, or_false, false_or, and_false, false_and, zf01, zf10, reduceCtorEq, zSw_c, zSw_n, zm_r, zit_T, zit_F, false_implies, true_implies, zc_355])
  rw [hn]
  refine ⟨by ((try simp only [zI_e]); (first | done | omega | skip)), ?_⟩
  refine zif (fun c1 => fun c2 => by omega) (fun c1 => ?_)
  refine zLoop.up 20 (fun j ρ μ1 => ρ = [vr 355, vi a, vi b, vi c, vi e, vi f, vi j] ∧ (∀ k : Int, 0 ≤ k → k < 5 → μ1 363 k = fvF a b c e f k) ∧ (∀ i : Int, μ1 362 i = zit (n ≤ i ∧ i < n + j) (sgn (tyF a b c e f (i - n))) (μ 362 i)) ∧ zfc [362, 363] μ μ1) ⟨rfl, fun k k0 k1 => ?_, fun i => by rw [zit_f (by omega)]; (repeat rw [zm_o (by omega)]), ?_⟩ ?_
  · unfold fvF
    rcases (show k = 0 ∨ k = 1 ∨ k = 2 ∨ k = 3 ∨ k = 4 by omega) with rfl | rfl | rfl | rfl | rfl <;> simp only [zm_r, zit_T, zit_F, zi_cs, zi_c0, zii_cs, zii_c0, zl_cs, zl_c0, zll_cs, zll_c0, zr_cs, zr_c0, zrr_cs, zrr_c0, zxs_cs, zxs_c0, zxx_cs, zxx_c0, zfree_c0, zfree_c1, zfree_cs, zfree_cz, zlong_i, zlong_r, zlong_x, zset_0, zset_s, true_and, and_true, Option.some.injEq, Sum.inl.injEq, Sum.inr.injEq, zb2_p, zbp_0, zbp_1, zbp_inj, zbp_01, Nat.zero_add, Nat.reduceAdd, implies_true, List.nil_append, List.cons_append, List.append_assoc, Int.not_lt, Int.not_le, Decidable.not_not, Int.zero_add, Int.reduceLE, Int.reduceLT, Int.reduceEq, Int.reduceNe, Int.reduceAdd, Int.reduceSub, Int.reduceMul, Int.reduceNeg, Int.reduceToNat, Nat.reduceMul, Nat.reduceLT, Nat.reduceEqDiff, and_self, ite_true, ite_false, zx1, zx2, zRecv, List.length_cons, List.length_nil, ne_eq, not_true_eq_false, not_false_eq_true, true_or, or_true, or_false, false_or, and_false, false_and, zf01, zf10, reduceCtorEq, zSw_c, zSw_n, zm_r, zit_T, zit_F, false_implies, true_implies]
  · (repeat (first | exact zfc.rf | refine zfc.zm ?_ (by decide)))
  rintro j ρ μ1 hj ⟨rfl, e1, e2, e3⟩
  (try simp only [zit_e, Bool.and_eq_true, Bool.or_eq_true, Bool.not_eq_true', Bool.and_eq_false_iff, Bool.or_eq_false_iff, Bool.not_eq_false', zbe, zdt, zdf, zb2_p, zbp_0, zbp_1, zbp_inj, zbp_01, Bool.true_eq_false, Bool.false_eq_true, true_and, and_true, Decidable.not_not, Classical.not_not, implies_true, List.nil_append, List.cons_append, List.append_assoc, Option.some.injEq, Sum.inl.injEq, zSw_c, zSw_n]); (try simp only [zit_e, Bool.and_eq_true, Bool.or_eq_true, Bool.not_eq_true', Bool.and_eq_false_iff, Bool.or_eq_false_iff, Bool.not_eq_false', zbe, zdt, zdf, zb2_p, zbp_0, zbp_1, zbp_inj, zbp_01, Bool.true_eq_false, Bool.false_eq_true, true_and, and_true, Decidable.not_not, Classical.not_not, implies_true, List.nil_append, List.cons_append, List.append_assoc, Option.some.injEq, Sum.inl.injEq, zSw_c, zSw_n, zc_355]); (try simp only [zi_cs, zi_c0, zii_cs, zii_c0, zl_cs, zl_c0, zll_cs, zll_c0, zr_cs, zr_c0, zrr_cs, zrr_c0, zxs_cs, zxs_c0, zxx_cs, zxx_c0, zfree_c0, zfree_c1, zfree_cs, zfree_cz, zlong_i, zlong_r, zlong_x, zset_0, zset_s, true_and, and_true, Option.some.injEq, Sum.inl.injEq, Sum.inr.injEq, zb2_p, zbp_0, zbp_1, zbp_inj, zbp_01, Nat.zero_add, Nat.reduceAdd, implies_true, List.nil_append, List.cons_append, List.append_assoc, Int.not_lt, Int.not_le, Decidable.not_not, Int.zero_add, Int.reduceLE, Int.reduceLT, Int.reduceEq, Int.reduceNe, Int.reduceAdd, Int.reduceSub, Int.reduceMul, Int.reduceNeg, Int.reduceToNat, Nat.reduceMul, Nat.reduceLT, Nat.reduceEqDiff, and_self, ite_true, ite_false, zx1, zx2, zRecv, List.length_cons, List.length_nil, ne_eq, not_true_eq_false, not_false_eq_true, true_or, or_true, or_false, false_or, and_false, false_and, zf01, zf10, reduceCtorEq, zSw_c, zSw_n, zm_r, zit_T, zit_F, false_implies, true_implies, zc_355])
  rw [e3 355 (by decide), hn]
  have k4 : ((j : Int)).tdiv 4 = (j : Int) / 4 := Int.tdiv_eq_ediv_of_nonneg (by omega)
  have k5 : ((j : Int)).tmod 4 = (j : Int) % 4 := Int.tmod_eq_emod_of_nonneg (by omega)
  rw [k4, k5]
  refine zif (fun c0 => ?_) (fun c0 => ?_)
  · rw [e1 _ (by omega) (by omega), (byF_e (k := (j : Int) % 4) (by omega)).1]
    have hb := (byF_e (x := fvF a b c e f ((j : Int) / 4)) (k := (j : Int) % 4) (by omega)).2
    have hs : -128 ≤ sgn (byF (fvF a b c e f ((j : Int) / 4)) ((j : Int) % 4)) ∧ sgn (byF (fvF a b c e f ((j : Int) / 4)) ((j : Int) % 4)) ≤ 127 := by
      unfold sgn
      split <;> omega
    refine ⟨by ((try simp only [zI_e]); (first | done | omega | skip)), by omega, by omega, ⟨⟨by ((try simp only [zI_e]); (first | done | omega | skip)), by omega, by omega⟩, by ((try simp only [zI_e]); (first | done | omega | skip)), by ((try simp only [zI_e]); (first | done | omega | skip))⟩, hs, by ((try simp only [zI_e]); (first | done | omega | skip)), znx (by omega) ⟨rfl, e1, fun i => ?_, e3.zm (by decide)⟩⟩
    rw [e2]
    by_cases ei : i = n + j
    · rw [zit_t ei, zit_t (by omega)]
      unfold tyF
      rw [show i - n = (j : Int) by omega]
    · rw [zit_f ei]
      by_cases e5 : n ≤ i ∧ i < n + j
      · rw [zit_t e5, zit_t (by omega)]
      · rw [zit_f e5, zit_f (by omega)]
  · have : j = 20 := by omega
    subst this
    exact ⟨by ((try simp only [zI_e]); (first | done | omega | skip)), fun q => by omega, fun _ => ⟨rfl, rfl, e2, fun k hk => zit_f hk, (e3.mo (by simp)).zm (by decide)⟩⟩
theorem JJ.tp {k : Int} {a a' b b' : zMem} (h : JJ k a b) (hT : JT a' b') (h1 : ∀ c : Nat, c < 355 → c ≠ 321 → c ≠ 322 → c ≠ 323 → a' c = a c) (h2 : ∀ c : Nat, 355 < c → ¬ scM c → c ≠ 361 → c ≠ 362 → b' c = b c) (h3 : ∀ j : Int, kfM j → j ≠ 11 → j ≠ 12 → b' 355 j = b 355 j) : JJ k a' b' := by
  obtain ⟨x1, x2, x3, x4, x5, x6, x7⟩ := h
  refine ⟨x1.c (fun c p q i _ _ => by rw [h1 c (by omega) (by omega) (by omega) (by omega)]) (fun i _ _ => by rw [h2 357 (by decide) (by unfold scM; omega) (by decide) (by decide)]), x2.c (fun c p q => h1 c (by omega) (by omega) (by omega) (by omega)) (h2 369 (by decide) (by unfold scM; omega) (by decide) (by decide)) (h3 _ (by unfold kfM; omega) (by decide) (by decide)), x3.c (fun c p q => h1 c (by omega) (by omega) (by omega) (by omega)) (h2 358 (by decide) (by unfold scM; omega) (by decide) (by decide)) (h2 359 (by decide) (by unfold scM; omega) (by decide) (by decide)), hT, x5.c (Int.le_refl _) (by rw [h1 0 (by decide) (by decide) (by decide) (by decide)]) (by rw [h1 0 (by decide) (by decide) (by decide) (by decide)]) (by rw [h1 0 (by decide) (by decide) (by decide) (by decide)]) (h1 354 (by decide) (by decide) (by decide) (by decide)) (h3 _ (by unfold kfM; omega) (by decide) (by decide)) (h3 _ (by unfold kfM; omega) (by decide) (by decide)) (h3 _ (by unfold kfM; omega) (by decide) (by decide)) (h2 356 (by decide) (by unfold scM; omega) (by decide) (by decide)), x6.c (by rw [h1 351 (by decide) (by decide) (by decide) (by decide)]) (h1 352 (by decide) (by decide) (by decide) (by decide)) (h3 _ (by unfold kfM; omega) (by decide) (by decide)) (h2 384 (by decide) (by unfold scM; omega) (by decide) (by decide)) (h2 385 (by decide) (by unfold scM; omega) (by decide) (by decide)) (h2 386 (by decide) (by unfold scM; omega) (by decide) (by decide)), by rw [h1 326 (by decide) (by decide) (by decide) (by decide)]; exact x7⟩
theorem LC_feed {a b c e f : Int} : LC y_D_feed y_M_feed [vi a, vi b, vi c, vi e, vi f] := LC.mk (fun k μ h0 h1 hJ => by
  obtain ⟨n, t1, t2, t3, t4, t5, t6⟩ := hJ.2.2.2.1
  refine ⟨0, fun v μ1 => (400 < (n : Int) + 20 → v = -1 ∧ μ1 = μ) ∧ ((n : Int) + 20 ≤ 400 → v = n + 20 ∧ μ1 321 2 = n + 20 ∧ (∀ i : Int, μ1 322 i = zit (n ≤ i ∧ i < n + 20) (tyF a b c e f (i - n)) (μ 322 i)) ∧ (∀ j : Int, j ≠ 2 → μ1 321 j = μ 321 j) ∧ zfc [321, 322] μ μ1), fun μ1 v μ2 => (400 < (n : Int) + 20 → v = -1 ∧ μ2 = μ1) ∧ ((n : Int) + 20 ≤ 400 → v = n + 20 ∧ μ2 355 11 = n + 20 ∧ (∀ i : Int, μ2 362 i = zit (n ≤ i ∧ i < n + 20) (sgn (tyF a b c e f (i - n))) (μ1 362 i)) ∧ (∀ j : Int, j ≠ 11 → μ2 355 j = μ1 355 j) ∧ zfc [355, 362, 363] μ1 μ2), by decide, ?_, ?_, ?_⟩
  · refine zCw.use (q_D_feed (n := (n : Int)) (d := 3) (by decide) t1 (by omega)) (by decide) (fun q μ1 g => ?_)
    by_cases cc : 400 < (n : Int) + 20
    · obtain ⟨rfl, rfl⟩ := g.1 cc
      exact OD.yes (by decide) HM.rf ⟨fun _ => ⟨rfl, rfl⟩, fun q => by omega⟩
    · obtain ⟨rfl, h⟩ := g.2 (by omega)
      exact OD.yes (by decide) (h.2.2.2.hm (by simp)) ⟨fun q => by omega, fun _ => ⟨rfl, h⟩⟩
  · intro μ1 hm
    refine zCw.use (q_M_feed (n := (n : Int)) (d := 3) (by decide) (by rw [hm 355 (by decide)]; exact t2) (by omega)) (by decide) (fun q μ2 g => ?_)
    by_cases cc : 400 < (n : Int) + 20
    · obtain ⟨rfl, rfl⟩ := g.1 cc
      exact OM.yes (by decide) HC.rf ⟨fun _ => ⟨rfl, rfl⟩, fun q => by omega⟩
    · obtain ⟨rfl, h⟩ := g.2 (by omega)
      exact OM.yes (by decide) (h.2.2.2.hc (by simp)) ⟨fun q => by omega, fun _ => ⟨rfl, h⟩⟩
  · rintro - v1 v2 μ1 μ2 hm r1 hc r2
    have hJ1 := hJ.m HC.rf hm
    by_cases cc : 400 < (n : Int) + 20
    · obtain ⟨rfl, rfl⟩ := r1.1 cc
      obtain ⟨rfl, rfl⟩ := r2.1 cc
      exact ⟨rfl, hJ1.up (by omega)⟩
    · obtain ⟨rfl, g1, g2, g3, g4⟩ := r1.2 (by omega)
      obtain ⟨rfl, s1, s2, s3, s4⟩ := r2.2 (by omega)
      refine ⟨rfl, JJ.up (JJ.tp hJ1 ⟨n + 20, by rw [g1]; omega, by rw [s1]; omega, by omega, fun i i0 i1 => ?_, ?_, fun i i0 i1 => ?_⟩ (fun c _ _ _ _ => g4 c (by simp only [List.mem_cons, List.not_mem_nil, or_false]; omega)) (fun c p q r s => s4 c ?_) (fun j hj p q => s3 j p)) (by omega)⟩
      · rw [g2, s2, hm 362 (by decide)]
        by_cases c2 : (n : Int) ≤ i ∧ i < n + 20
        · rw [zit_t c2, zit_t c2]
          exact ⟨tyF_in, rfl⟩
        · rw [zit_f c2, zit_f c2]
          exact t4 i i0 i1
      · rw [s3 12 (by decide), g3 3 (by decide), hm 355 (by decide)]
        exact t5
      · rw [s4 361 (by decide), hm 361 (by decide)]
        exact t6 i i0 i1
      · unfold scM at q
        simp only [List.mem_cons, List.not_mem_nil, or_false]
        omega)
theorem LC_end {m : Int} : LC y_D_end y_M_end [vi m] := LC.mk (fun k μ h0 h1 hJ => by
  obtain ⟨n, t1, t2, t3, t4, t5, t6⟩ := hJ.2.2.2.1
  refine ⟨0, fun v μ1 => (¬ (0 ≤ m ∧ m ≤ n) → v = -1 ∧ μ1 = μ) ∧ ((0 ≤ m ∧ m ≤ n) → v = m ∧ μ1 = zm μ 321 2 m), fun μ1 v μ2 => (¬ (0 ≤ m ∧ m ≤ n) → v = -1 ∧ μ2 = μ1) ∧ ((0 ≤ m ∧ m ≤ n) → v = m ∧ μ2 = zm μ1 355 11 m), by decide, ?_, ?_, ?_⟩
  · refine zCw.use (zSp.ss [vr 0, vi m] rfl (w_D_end (d := 100) (by decide)) rfl rfl ?_) (by decide) (fun q μ' e => e)
    (try simp only [zit_e, Bool.and_eq_true, Bool.or_eq_true, Bool.not_eq_true', Bool.and_eq_false_iff, Bool.or_eq_false_iff, Bool.not_eq_false', zbe, zdt, zdf, zb2_p, zbp_0, zbp_1, zbp_inj, zbp_01, Bool.true_eq_false, Bool.false_eq_true, true_and, and_true, Decidable.not_not, Classical.not_not, implies_true, List.nil_append, List.cons_append, List.append_assoc, Option.some.injEq, Sum.inl.injEq, zSw_c, zSw_n]); (try simp only [zit_e, Bool.and_eq_true, Bool.or_eq_true, Bool.not_eq_true', Bool.and_eq_false_iff, Bool.or_eq_false_iff, Bool.not_eq_false', zbe, zdt, zdf, zb2_p, zbp_0, zbp_1, zbp_inj, zbp_01, Bool.true_eq_false, Bool.false_eq_true, true_and, and_true, Decidable.not_not, Classical.not_not, implies_true, List.nil_append, List.cons_append, List.append_assoc, Option.some.injEq, Sum.inl.injEq, zSw_c, zSw_n, zc_0, zc_321]); (try simp only [zi_cs, zi_c0, zii_cs, zii_c0, zl_cs, zl_c0, zll_cs, zll_c0, zr_cs, zr_c0, zrr_cs, zrr_c0, zxs_cs, zxs_c0, zxx_cs, zxx_c0, zfree_c0, zfree_c1, zfree_cs, zfree_cz, zlong_i, zlong_r, zlong_x, zset_0, zset_s, true_and, and_true, Option.some.injEq, Sum.inl.injEq, Sum.inr.injEq, zb2_p, zbp_0, zbp_1, zbp_inj, zbp_01, Nat.zero_add, Nat.reduceAdd, implies_true, List.nil_append, List.cons_append, List.append_assoc, Int.not_lt, Int.not_le, Decidable.not_not, Int.zero_add, Int.reduceLE, Int.reduceLT, Int.reduceEq, Int.reduceNe, Int.reduceAdd, Int.reduceSub, Int.reduceMul, Int.reduceNeg, Int.reduceToNat, Nat.reduceMul, Nat.reduceLT, Nat.reduceEqDiff, and_self, ite_true, ite_false, zx1, zx2, zRecv, List.length_cons, List.length_nil, ne_eq, not_true_eq_false, not_false_eq_true, true_or, or_true, or_false, false_or, and_false, false_and, zf01, zf10, reduceCtorEq, zSw_c, zSw_n, zm_r, zit_T, zit_F, false_implies, true_implies, zc_0, zc_321])
    rw [t1]
    refine zif (fun cc => ?_) (fun cc => ?_)
    · exact OD.yes (by decide) HM.rf ⟨fun _ => ⟨rfl, rfl⟩, fun q => by omega⟩
    · exact OD.yes (by decide) (by ((repeat refine HM.sm ?_ (by omega)); exact HM.rf)) ⟨fun q => by omega, fun _ => ⟨rfl, rfl⟩⟩
  · intro μ1 hm
    refine zCw.use (zSp.ss [vr 355, vi m] rfl (w_M_end (d := 100) (by decide)) rfl rfl ?_) (by decide) (fun q μ' e => e)
    (try simp only [zit_e, Bool.and_eq_true, Bool.or_eq_true, Bool.not_eq_true', Bool.and_eq_false_iff, Bool.or_eq_false_iff, Bool.not_eq_false', zbe, zdt, zdf, zb2_p, zbp_0, zbp_1, zbp_inj, zbp_01, Bool.true_eq_false, Bool.false_eq_true, true_and, and_true, Decidable.not_not, Classical.not_not, implies_true, List.nil_append, List.cons_append, List.append_assoc, Option.some.injEq, Sum.inl.injEq, zSw_c, zSw_n]); (try simp only [zit_e, Bool.and_eq_true, Bool.or_eq_true, Bool.not_eq_true', Bool.and_eq_false_iff, Bool.or_eq_false_iff, Bool.not_eq_false', zbe, zdt, zdf, zb2_p, zbp_0, zbp_1, zbp_inj, zbp_01, Bool.true_eq_false, Bool.false_eq_true, true_and, and_true, Decidable.not_not, Classical.not_not, implies_true, List.nil_append, List.cons_append, List.append_assoc, Option.some.injEq, Sum.inl.injEq, zSw_c, zSw_n, zc_355, f_M_lies, g_M_lies]); (try simp only [zi_cs, zi_c0, zii_cs, zii_c0, zl_cs, zl_c0, zll_cs, zll_c0, zr_cs, zr_c0, zrr_cs, zrr_c0, zxs_cs, zxs_c0, zxx_cs, zxx_c0, zfree_c0, zfree_c1, zfree_cs, zfree_cz, zlong_i, zlong_r, zlong_x, zset_0, zset_s, true_and, and_true, Option.some.injEq, Sum.inl.injEq, Sum.inr.injEq, zb2_p, zbp_0, zbp_1, zbp_inj, zbp_01, Nat.zero_add, Nat.reduceAdd, implies_true, List.nil_append, List.cons_append, List.append_assoc, Int.not_lt, Int.not_le, Decidable.not_not, Int.zero_add, Int.reduceLE, Int.reduceLT, Int.reduceEq, Int.reduceNe, Int.reduceAdd, Int.reduceSub, Int.reduceMul, Int.reduceNeg, Int.reduceToNat, Nat.reduceMul, Nat.reduceLT, Nat.reduceEqDiff, and_self, ite_true, ite_false, zx1, zx2, zRecv, List.length_cons, List.length_nil, ne_eq, not_true_eq_false, not_false_eq_true, true_or, or_true, or_false, false_or, and_false, false_and, zf01, zf10, reduceCtorEq, zSw_c, zSw_n, zm_r, zit_T, zit_F, false_implies, true_implies, zc_355, f_M_lies, g_M_lies])
    rw [hm 355 (by decide), t2]
    refine zif (fun cc => ?_) (fun cc => ?_)
    · exact OM.yes (by decide) HC.rf ⟨fun _ => ⟨rfl, rfl⟩, fun q => absurd q cc⟩
    · exact OM.yes (by decide) (by ((repeat refine HC.sm ?_ (by omega)); exact HC.rf)) ⟨fun q => by omega, fun _ => ⟨rfl, rfl⟩⟩
  · rintro - v1 v2 μ1 μ2 hm r1 hc r2
    have hJ1 := hJ.m HC.rf hm
    by_cases cc : 0 ≤ m ∧ m ≤ n
    · obtain ⟨e1, rfl⟩ := r1.2 cc
      obtain ⟨e2, rfl⟩ := r2.2 cc
      refine ⟨e1.trans e2.symm, JJ.up (JJ.tp hJ1 ⟨m.toNat, by rw [zm_s]; omega, by rw [zm_s]; omega, by omega, fun i i0 i1 => ?_, ?_, fun i i0 i1 => ?_⟩ (fun c p q r s => by rw [zm_off _ (by omega)]) (fun c p q r s => by rw [zm_off _ (by omega)]) (fun j hj p q => by rw [zm_o (by omega)])) (by omega)⟩
      · (repeat rw [zm_o (by omega)])
        exact t4 i i0 i1
      · (repeat rw [zm_o (by omega)])
        exact t5
      · (repeat rw [zm_o (by omega)])
        exact t6 i i0 i1
    · obtain ⟨rfl, rfl⟩ := r1.1 cc
      obtain ⟨rfl, rfl⟩ := r2.1 cc
      exact ⟨rfl, hJ1.up (by omega)⟩)

