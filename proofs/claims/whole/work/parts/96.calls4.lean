/-! what is told in fours -/
theorem zpa10_all : (List.range 8).all (fun i => (zpa 10 (i : Int) == 11 + i) && (zpa 19 (i : Int) == 20 + i) && (zkd (11 + i) == 0) && (zln (11 + i) == 4) && (zkd (20 + i) == 0) && (zln (20 + i) == 4)) = true := by decide +kernel
theorem zpa10 {i : Int} (h0 : 0 ≤ i) (h1 : i < 8) : (zpa 10 i = 11 + i.toNat ∧ zpa 19 i = 20 + i.toNat) ∧ (zkd (11 + i.toNat) = 0 ∧ zln (11 + i.toNat) = 4) ∧ zkd (20 + i.toNat) = 0 ∧ zln (20 + i.toNat) = 4 := by
  have := List.all_eq_true.mp zpa10_all i.toNat (List.mem_range.mpr (by omega))
  simp only [Bool.and_eq_true, beq_iff_eq] at this
  rw [show ((i.toNat : Nat) : Int) = i by omega] at this
  exact ⟨⟨this.1.1.1.1.1, this.1.1.1.1.2⟩, ⟨this.1.1.1.2, this.1.1.2⟩, this.1.2, this.2⟩
theorem TV.add {j : Int} {C : Nat} {a b mx : Int} {T T' : zMem} {κ κ' : Int → Int} {v h r m : Int} (hV : TV j C a b mx T κ) (hn : T 1 j < 8) (h1 : T' 1 j = T 1 j + 1) (h2 : ∀ c : Nat, C ≤ c → c < C + 8 → c ≠ C + (T 1 j).toNat → ∀ i : Int, 0 ≤ i → i < 4 → T' c i = T c i) (h3 : T' (C + (T 1 j).toNat) 0 = v ∧ T' (C + (T 1 j).toNat) 1 = h ∧ T' (C + (T 1 j).toNat) 2 = r ∧ T' (C + (T 1 j).toNat) 3 = m) (h4 : (0 ≤ v ∧ v ≤ 6) ∧ (0 ≤ h ∧ h ≤ 6) ∧ v ≠ h ∧ (1 ≤ r ∧ r ≤ 3) ∧ 0 ≤ m ∧ m ≤ mx) (k1 : κ' a = κ a + 1) (k2 : ∀ i : Int, b ≤ i → i < b + 4 * T 1 j → κ' i = κ i) (k3 : κ' (b + 4 * T 1 j) = v ∧ κ' (b + 4 * T 1 j + 1) = h ∧ κ' (b + 4 * T 1 j + 2) = r ∧ κ' (b + 4 * T 1 j + 3) = m) : TV j C a b mx T' κ' := by
  obtain ⟨p, q, s⟩ := hV
  refine ⟨by omega, by omega, fun i x y => ?_⟩
  unfold okF
  by_cases e : i = T 1 j
  · subst e
    rw [h3.1, h3.2.1, h3.2.2.1, h3.2.2.2]
    exact ⟨k3, h4⟩
  · have := s i x (by omega)
    unfold okF at this
    rw [h2 _ (by omega) (by omega) (by omega) 0 (by decide) (by decide), h2 _ (by omega) (by omega) (by omega) 1 (by decide) (by decide), h2 _ (by omega) (by omega) (by omega) 2 (by decide) (by decide), h2 _ (by omega) (by omega) (by omega) 3 (by decide) (by decide), k2 _ (by omega) (by omega), k2 _ (by omega) (by omega), k2 _ (by omega) (by omega), k2 _ (by omega) (by omega)]
    exact this
theorem OM.q {k c : Int} {μ μ' : zMem} {R : Int → zMem → Prop} {q : Option zV} (h : OM k μ c R q μ') : ∃ n, q = some (vi n) ∧ OM k μ c R (some (vi n)) μ' := by
  rcases h.2 with ⟨_, rfl, _⟩ | ⟨_, v, rfl, _⟩
  · exact ⟨_, rfl, h⟩
  · exact ⟨_, rfl, h⟩
theorem OD.q {k c : Int} {μ μ' : zMem} {R : Int → zMem → Prop} {q : Option zV} (h : OD k μ c R q μ') : ∃ n, q = some (vi n) ∧ OD k μ c R (some (vi n)) μ' := by
  rcases h.2 with ⟨_, rfl, _⟩ | ⟨_, v, rfl, _⟩
  · exact ⟨_, rfl, h⟩
  · exact ⟨_, rfl, h⟩
def y_D_tell : zMt := (⟨"DebtDoors", "tell", "([IIIII)V"⟩, prog_1_method_41_code, 5, none)
theorem d_D_tell_0 : decode prog_1_method_41_code 0 = .ok (.aload_n 0, 1) := by decide +kernel
theorem d_D_tell_1 : decode prog_1_method_41_code 1 = .ok (.iconst 0, 1) := by decide +kernel
theorem d_D_tell_2 : decode prog_1_method_41_code 2 = .ok (.iload_n 1, 1) := by decide +kernel
theorem d_D_tell_3 : decode prog_1_method_41_code 3 = .ok (.iastore, 1) := by decide +kernel
theorem d_D_tell_4 : decode prog_1_method_41_code 4 = .ok (.aload_n 0, 1) := by decide +kernel
theorem d_D_tell_5 : decode prog_1_method_41_code 5 = .ok (.iconst 1, 1) := by decide +kernel
theorem d_D_tell_6 : decode prog_1_method_41_code 6 = .ok (.iload_n 2, 1) := by decide +kernel
theorem d_D_tell_7 : decode prog_1_method_41_code 7 = .ok (.iastore, 1) := by decide +kernel
theorem d_D_tell_8 : decode prog_1_method_41_code 8 = .ok (.aload_n 0, 1) := by decide +kernel
theorem d_D_tell_9 : decode prog_1_method_41_code 9 = .ok (.iconst 2, 1) := by decide +kernel
theorem d_D_tell_10 : decode prog_1_method_41_code 10 = .ok (.iload_n 3, 1) := by decide +kernel
theorem d_D_tell_11 : decode prog_1_method_41_code 11 = .ok (.iastore, 1) := by decide +kernel
theorem d_D_tell_12 : decode prog_1_method_41_code 12 = .ok (.aload_n 0, 1) := by decide +kernel
theorem d_D_tell_13 : decode prog_1_method_41_code 13 = .ok (.iconst 3, 1) := by decide +kernel
theorem d_D_tell_14 : decode prog_1_method_41_code 14 = .ok (.iload 4, 2) := by decide +kernel
theorem d_D_tell_16 : decode prog_1_method_41_code 16 = .ok (.iastore, 1) := by decide +kernel
theorem d_D_tell_17 : decode prog_1_method_41_code 17 = .ok (.return_, 1) := by decide +kernel
def w_D_tell {d : Nat} (hd : 1 ≤ d) := (show SS ("DebtDoors", prog_1_method_41_code, 5) (none) d 0 0 0 0 _ from (sS (p1 := 4) (sAs (rAn 0 d_D_tell_0 rfl) (rI d_D_tell_1 rfl) (xE (rIn 1 d_D_tell_2 rfl)) d_D_tell_3) (sS (p1 := 8) (sAs (rAn 0 d_D_tell_4 rfl) (rI d_D_tell_5 rfl) (xE (rIn 2 d_D_tell_6 rfl)) d_D_tell_7) (sS (p1 := 12) (sAs (rAn 0 d_D_tell_8 rfl) (rI d_D_tell_9 rfl) (xE (rIn 3 d_D_tell_10 rfl)) d_D_tell_11) (sS (p1 := 17) (sAs (rAn 0 d_D_tell_12 rfl) (rI d_D_tell_13 rfl) (xE (rIl d_D_tell_14)) d_D_tell_16) (sRv d_D_tell_17 rfl))))))
theorem m_D_tell : Cond.static y_D_tell.1 ∈ zTb ∧ Cond.initialized y_D_tell.1.cls ∈ zTb ∧ Cond.code y_D_tell.1 y_D_tell.2.1 y_D_tell.2.2.1 y_D_tell.2.2.2 ∈ zTb ∧ (y_D_tell.1.cls ≠ "java/lang/invoke/MethodHandle" ∧ y_D_tell.1.cls ≠ "java/lang/invoke/VarHandle" ∧ (parseMethodDescriptor y_D_tell.1.desc).map (fun d => d.parameters.length) = some 5) ∧ y_D_tell.2.2.1 ≤ 20 :=
  ⟨(zTb_in 1091 (by decide +kernel) (by decide +kernel)), (zTb_in 139 (by decide +kernel) (by decide +kernel)), (zTb_in 1092 (by decide +kernel) (by decide +kernel)), by decide +kernel, by decide +kernel⟩
theorem ls_D_343 : zLs "DebtDoors" 343 y_D_tell 5 := Or.inl ⟨(zTb_in 1090 (by decide +kernel) (by decide +kernel)), m_D_tell⟩
theorem fl_D_340 : zFl "DebtDoors" 340 9 3 := ⟨_, rfl, by decide, (zTb_in 241 (by decide +kernel) (by decide +kernel)), rfl⟩
theorem nk_9_3 : zNk 9 3 = none := rfl
theorem fp_9_8 : zFp 9 8 0 := ⟨_, rfl, rfl, rfl, by decide⟩
def y_D_visit : zMt := (⟨"DebtDoors", "visit", "(IIII)I"⟩, prog_1_method_40_code, 5, some .int)
theorem d_D_visit_0 : decode prog_1_method_40_code 0 = .ok (.iload_n 1, 1) := by decide +kernel
theorem d_D_visit_1 : decode prog_1_method_40_code 1 = .ok (.iload_n 2, 1) := by decide +kernel
theorem d_D_visit_2 : decode prog_1_method_40_code 2 = .ok (.if_icmp .eq 24, 3) := by decide +kernel
theorem d_D_visit_5 : decode prog_1_method_40_code 5 = .ok (.iload_n 3, 1) := by decide +kernel
theorem d_D_visit_6 : decode prog_1_method_40_code 6 = .ok (.iconst 1, 1) := by decide +kernel
theorem d_D_visit_7 : decode prog_1_method_40_code 7 = .ok (.iconst 3, 1) := by decide +kernel
theorem d_D_visit_8 : decode prog_1_method_40_code 8 = .ok (.invokestatic 104, 3) := by decide +kernel
theorem d_D_visit_11 : decode prog_1_method_40_code 11 = .ok (.ifCond .eq 15, 3) := by decide +kernel
theorem d_D_visit_14 : decode prog_1_method_40_code 14 = .ok (.iload 4, 2) := by decide +kernel
theorem d_D_visit_16 : decode prog_1_method_40_code 16 = .ok (.iconst 0, 1) := by decide +kernel
theorem d_D_visit_17 : decode prog_1_method_40_code 17 = .ok (.sipush 999, 3) := by decide +kernel
theorem d_D_visit_20 : decode prog_1_method_40_code 20 = .ok (.invokestatic 104, 3) := by decide +kernel
theorem d_D_visit_23 : decode prog_1_method_40_code 23 = .ok (.ifCond .ne 9, 3) := by decide +kernel
theorem d_D_visit_26 : decode prog_1_method_40_code 26 = .ok (.aload_n 0, 1) := by decide +kernel
theorem d_D_visit_27 : decode prog_1_method_40_code 27 = .ok (.iconst (-1), 1) := by decide +kernel
theorem d_D_visit_28 : decode prog_1_method_40_code 28 = .ok (.invokevirtual 108, 3) := by decide +kernel
theorem d_D_visit_31 : decode prog_1_method_40_code 31 = .ok (.ireturn, 1) := by decide +kernel
theorem d_D_visit_32 : decode prog_1_method_40_code 32 = .ok (.aload_n 0, 1) := by decide +kernel
theorem d_D_visit_33 : decode prog_1_method_40_code 33 = .ok (.getfield 12, 3) := by decide +kernel
theorem d_D_visit_36 : decode prog_1_method_40_code 36 = .ok (.iload_n 1, 1) := by decide +kernel
theorem d_D_visit_37 : decode prog_1_method_40_code 37 = .ok (.invokevirtual 137, 3) := by decide +kernel
theorem d_D_visit_40 : decode prog_1_method_40_code 40 = .ok (.ifCond .eq 14, 3) := by decide +kernel
theorem d_D_visit_43 : decode prog_1_method_40_code 43 = .ok (.aload_n 0, 1) := by decide +kernel
theorem d_D_visit_44 : decode prog_1_method_40_code 44 = .ok (.getfield 12, 3) := by decide +kernel
theorem d_D_visit_47 : decode prog_1_method_40_code 47 = .ok (.iload_n 2, 1) := by decide +kernel
theorem d_D_visit_48 : decode prog_1_method_40_code 48 = .ok (.invokevirtual 137, 3) := by decide +kernel
theorem d_D_visit_51 : decode prog_1_method_40_code 51 = .ok (.ifCond .ne 10, 3) := by decide +kernel
theorem d_D_visit_54 : decode prog_1_method_40_code 54 = .ok (.aload_n 0, 1) := by decide +kernel
theorem d_D_visit_55 : decode prog_1_method_40_code 55 = .ok (.bipush (-2), 2) := by decide +kernel
theorem d_D_visit_57 : decode prog_1_method_40_code 57 = .ok (.invokevirtual 108, 3) := by decide +kernel
theorem d_D_visit_60 : decode prog_1_method_40_code 60 = .ok (.ireturn, 1) := by decide +kernel
theorem d_D_visit_61 : decode prog_1_method_40_code 61 = .ok (.aload_n 0, 1) := by decide +kernel
theorem d_D_visit_62 : decode prog_1_method_40_code 62 = .ok (.getfield 12, 3) := by decide +kernel
theorem d_D_visit_65 : decode prog_1_method_40_code 65 = .ok (.getfield 337, 3) := by decide +kernel
theorem d_D_visit_68 : decode prog_1_method_40_code 68 = .ok (.bipush 8, 2) := by decide +kernel
theorem d_D_visit_70 : decode prog_1_method_40_code 70 = .ok (.if_icmp .lt 10, 3) := by decide +kernel
theorem d_D_visit_73 : decode prog_1_method_40_code 73 = .ok (.aload_n 0, 1) := by decide +kernel
theorem d_D_visit_74 : decode prog_1_method_40_code 74 = .ok (.bipush (-5), 2) := by decide +kernel
theorem d_D_visit_76 : decode prog_1_method_40_code 76 = .ok (.invokevirtual 108, 3) := by decide +kernel
theorem d_D_visit_79 : decode prog_1_method_40_code 79 = .ok (.ireturn, 1) := by decide +kernel
theorem d_D_visit_80 : decode prog_1_method_40_code 80 = .ok (.aload_n 0, 1) := by decide +kernel
theorem d_D_visit_81 : decode prog_1_method_40_code 81 = .ok (.getfield 12, 3) := by decide +kernel
theorem d_D_visit_84 : decode prog_1_method_40_code 84 = .ok (.getfield 340, 3) := by decide +kernel
theorem d_D_visit_87 : decode prog_1_method_40_code 87 = .ok (.aload_n 0, 1) := by decide +kernel
theorem d_D_visit_88 : decode prog_1_method_40_code 88 = .ok (.getfield 12, 3) := by decide +kernel
theorem d_D_visit_91 : decode prog_1_method_40_code 91 = .ok (.getfield 337, 3) := by decide +kernel
theorem d_D_visit_94 : decode prog_1_method_40_code 94 = .ok (.aaload, 1) := by decide +kernel
theorem d_D_visit_95 : decode prog_1_method_40_code 95 = .ok (.iload_n 1, 1) := by decide +kernel
theorem d_D_visit_96 : decode prog_1_method_40_code 96 = .ok (.iload_n 2, 1) := by decide +kernel
theorem d_D_visit_97 : decode prog_1_method_40_code 97 = .ok (.iload_n 3, 1) := by decide +kernel
theorem d_D_visit_98 : decode prog_1_method_40_code 98 = .ok (.iload 4, 2) := by decide +kernel
theorem d_D_visit_100 : decode prog_1_method_40_code 100 = .ok (.invokestatic 343, 3) := by decide +kernel
theorem d_D_visit_103 : decode prog_1_method_40_code 103 = .ok (.aload_n 0, 1) := by decide +kernel
theorem d_D_visit_104 : decode prog_1_method_40_code 104 = .ok (.getfield 12, 3) := by decide +kernel
theorem d_D_visit_107 : decode prog_1_method_40_code 107 = .ok (.dup, 1) := by decide +kernel
theorem d_D_visit_108 : decode prog_1_method_40_code 108 = .ok (.getfield 337, 3) := by decide +kernel
theorem d_D_visit_111 : decode prog_1_method_40_code 111 = .ok (.iconst 1, 1) := by decide +kernel
theorem d_D_visit_112 : decode prog_1_method_40_code 112 = .ok (.iadd, 1) := by decide +kernel
theorem d_D_visit_113 : decode prog_1_method_40_code 113 = .ok (.putfield 337, 3) := by decide +kernel
theorem d_D_visit_116 : decode prog_1_method_40_code 116 = .ok (.aload_n 0, 1) := by decide +kernel
theorem d_D_visit_117 : decode prog_1_method_40_code 117 = .ok (.aload_n 0, 1) := by decide +kernel
theorem d_D_visit_118 : decode prog_1_method_40_code 118 = .ok (.getfield 12, 3) := by decide +kernel
theorem d_D_visit_121 : decode prog_1_method_40_code 121 = .ok (.getfield 337, 3) := by decide +kernel
theorem d_D_visit_124 : decode prog_1_method_40_code 124 = .ok (.invokevirtual 130, 3) := by decide +kernel
theorem d_D_visit_127 : decode prog_1_method_40_code 127 = .ok (.ireturn, 1) := by decide +kernel
def w_D_visit {d : Nat} (hd : 2 ≤ d) := (show SS ("DebtDoors", prog_1_method_40_code, 5) (some .int) d 0 0 0 0 _ from (sS (p1 := 32) (sIf (pn := 32) (tt := 26) (xC (rOr (mm := 14) (rOr (mm := 5) (rJ2 (tgt := 26) j_eq (rIn 1 d_D_visit_0 rfl) (rIn 2 d_D_visit_1 rfl) d_D_visit_2 (by decide)) (rNot (rNot (rJ1 (tgt := 26) k_eq (rS p_D_between (Nat.le_trans (Nat.le_of_ble_eq_true rfl) hd) ls_D_104 (rAi (rAi (rAi rA0 (rIn 3 d_D_visit_5 rfl)) (rI d_D_visit_6 rfl)) (rI d_D_visit_7 rfl)) (by decide) d_D_visit_8) d_D_visit_11 (by decide))))) (rNot (rJ1 (tgt := 32) k_ne (rS p_D_between (Nat.le_trans (Nat.le_of_ble_eq_true rfl) hd) ls_D_104 (rAi (rAi (rAi rA0 (rIl d_D_visit_14)) (rI d_D_visit_16 rfl)) (rSi d_D_visit_17 rfl)) (by decide) d_D_visit_20) d_D_visit_23 (by decide))))) (sRi (xV lv_D_108 (xA (rAi (rAr rA0 (rAn 0 d_D_visit_26 rfl)) (rI d_D_visit_27 rfl))) (by decide) d_D_visit_28) d_D_visit_31 rfl)) (sS (p1 := 61) (sIf (pn := 61) (tt := 54) (xC (rOr (mm := 43) (rNot (rNot (rJ1 (tgt := 54) k_eq (rV p_To_has (Nat.le_trans (Nat.le_of_ble_eq_true rfl) hd) lv_D_137 (rAi (rAr rA0 (rFr fl_D_12 nk_11_0 (rAn 0 d_D_visit_32 rfl) d_D_visit_33)) (rIn 1 d_D_visit_36 rfl)) (by decide) d_D_visit_37) d_D_visit_40 (by decide)))) (rNot (rJ1 (tgt := 61) k_ne (rV p_To_has (Nat.le_trans (Nat.le_of_ble_eq_true rfl) hd) lv_D_137 (rAi (rAr rA0 (rFr fl_D_12 nk_11_0 (rAn 0 d_D_visit_43 rfl) d_D_visit_44)) (rIn 2 d_D_visit_47 rfl)) (by decide) d_D_visit_48) d_D_visit_51 (by decide))))) (sRi (xV lv_D_108 (xA (rAi (rAr rA0 (rAn 0 d_D_visit_54 rfl)) (rB d_D_visit_55 rfl))) (by decide) d_D_visit_57) d_D_visit_60 rfl)) (sS (p1 := 80) (sIf (pn := 80) (tt := 73) (xC (rNot (rJ2 (tgt := 80) j_lt (rF 8 fl_D_337 nk_9_8 (rFr fl_D_12 nk_11_0 (rAn 0 d_D_visit_61 rfl) d_D_visit_62) d_D_visit_65 rfl) (rB d_D_visit_68 rfl) d_D_visit_70 (by decide)))) (sRi (xV lv_D_108 (xA (rAi (rAr rA0 (rAn 0 d_D_visit_73 rfl)) (rB d_D_visit_74 rfl))) (by decide) d_D_visit_76) d_D_visit_79 rfl)) (sS (p1 := 103) (sV (xSv ls_D_343 (xA (rAi (rAi (rAi (rAi (rAr rA0 (rAa (rFr fl_D_340 nk_9_3 (rFr fl_D_12 nk_11_0 (rAn 0 d_D_visit_80 rfl) d_D_visit_81) d_D_visit_84) (rF 8 fl_D_337 nk_9_8 (rFr fl_D_12 nk_11_0 (rAn 0 d_D_visit_87 rfl) d_D_visit_88) d_D_visit_91 rfl) d_D_visit_94)) (rIn 1 d_D_visit_95 rfl)) (rIn 2 d_D_visit_96 rfl)) (rIn 3 d_D_visit_97 rfl)) (rIl d_D_visit_98))) (by decide) d_D_visit_100)) (sS (p1 := 116) (sPo 8 o_add fl_D_337 fp_9_8 nk_9_8 (rFr fl_D_12 nk_11_0 (rAn 0 d_D_visit_103 rfl) d_D_visit_104) d_D_visit_107 d_D_visit_108 (rI d_D_visit_111 rfl) d_D_visit_112 d_D_visit_113 rfl) (sRi (xV lv_D_130 (xA (rAi (rAr rA0 (rAn 0 d_D_visit_116 rfl)) (rF 8 fl_D_337 nk_9_8 (rFr fl_D_12 nk_11_0 (rAn 0 d_D_visit_117 rfl) d_D_visit_118) d_D_visit_121 rfl))) (by decide) d_D_visit_124) d_D_visit_127 rfl)))))))
theorem fl_D_402 : zFl "DebtDoors" 402 9 4 := ⟨_, rfl, by decide, (zTb_in 243 (by decide +kernel) (by decide +kernel)), rfl⟩
theorem nk_9_4 : zNk 9 4 = none := rfl
theorem fp_9_9 : zFp 9 9 0 := ⟨_, rfl, rfl, rfl, by decide⟩
def y_D_scuff : zMt := (⟨"DebtDoors", "scuff", "(IIII)I"⟩, prog_1_method_56_code, 5, some .int)
theorem d_D_scuff_0 : decode prog_1_method_56_code 0 = .ok (.iload_n 1, 1) := by decide +kernel
theorem d_D_scuff_1 : decode prog_1_method_56_code 1 = .ok (.iload_n 2, 1) := by decide +kernel
theorem d_D_scuff_2 : decode prog_1_method_56_code 2 = .ok (.if_icmp .eq 22, 3) := by decide +kernel
theorem d_D_scuff_5 : decode prog_1_method_56_code 5 = .ok (.iload_n 3, 1) := by decide +kernel
theorem d_D_scuff_6 : decode prog_1_method_56_code 6 = .ok (.iconst 1, 1) := by decide +kernel
theorem d_D_scuff_7 : decode prog_1_method_56_code 7 = .ok (.iconst 3, 1) := by decide +kernel
theorem d_D_scuff_8 : decode prog_1_method_56_code 8 = .ok (.invokestatic 104, 3) := by decide +kernel
theorem d_D_scuff_11 : decode prog_1_method_56_code 11 = .ok (.ifCond .eq 13, 3) := by decide +kernel
theorem d_D_scuff_14 : decode prog_1_method_56_code 14 = .ok (.iload 4, 2) := by decide +kernel
theorem d_D_scuff_16 : decode prog_1_method_56_code 16 = .ok (.iconst 0, 1) := by decide +kernel
theorem d_D_scuff_17 : decode prog_1_method_56_code 17 = .ok (.iconst 1, 1) := by decide +kernel
theorem d_D_scuff_18 : decode prog_1_method_56_code 18 = .ok (.invokestatic 104, 3) := by decide +kernel
theorem d_D_scuff_21 : decode prog_1_method_56_code 21 = .ok (.ifCond .ne 9, 3) := by decide +kernel
theorem d_D_scuff_24 : decode prog_1_method_56_code 24 = .ok (.aload_n 0, 1) := by decide +kernel
theorem d_D_scuff_25 : decode prog_1_method_56_code 25 = .ok (.iconst (-1), 1) := by decide +kernel
theorem d_D_scuff_26 : decode prog_1_method_56_code 26 = .ok (.invokevirtual 108, 3) := by decide +kernel
theorem d_D_scuff_29 : decode prog_1_method_56_code 29 = .ok (.ireturn, 1) := by decide +kernel
theorem d_D_scuff_30 : decode prog_1_method_56_code 30 = .ok (.aload_n 0, 1) := by decide +kernel
theorem d_D_scuff_31 : decode prog_1_method_56_code 31 = .ok (.getfield 12, 3) := by decide +kernel
theorem d_D_scuff_34 : decode prog_1_method_56_code 34 = .ok (.iload_n 1, 1) := by decide +kernel
theorem d_D_scuff_35 : decode prog_1_method_56_code 35 = .ok (.invokevirtual 137, 3) := by decide +kernel
theorem d_D_scuff_38 : decode prog_1_method_56_code 38 = .ok (.ifCond .eq 14, 3) := by decide +kernel
theorem d_D_scuff_41 : decode prog_1_method_56_code 41 = .ok (.aload_n 0, 1) := by decide +kernel
theorem d_D_scuff_42 : decode prog_1_method_56_code 42 = .ok (.getfield 12, 3) := by decide +kernel
theorem d_D_scuff_45 : decode prog_1_method_56_code 45 = .ok (.iload_n 2, 1) := by decide +kernel
theorem d_D_scuff_46 : decode prog_1_method_56_code 46 = .ok (.invokevirtual 137, 3) := by decide +kernel
theorem d_D_scuff_49 : decode prog_1_method_56_code 49 = .ok (.ifCond .ne 10, 3) := by decide +kernel
theorem d_D_scuff_52 : decode prog_1_method_56_code 52 = .ok (.aload_n 0, 1) := by decide +kernel
theorem d_D_scuff_53 : decode prog_1_method_56_code 53 = .ok (.bipush (-2), 2) := by decide +kernel
theorem d_D_scuff_55 : decode prog_1_method_56_code 55 = .ok (.invokevirtual 108, 3) := by decide +kernel
theorem d_D_scuff_58 : decode prog_1_method_56_code 58 = .ok (.ireturn, 1) := by decide +kernel
theorem d_D_scuff_59 : decode prog_1_method_56_code 59 = .ok (.aload_n 0, 1) := by decide +kernel
theorem d_D_scuff_60 : decode prog_1_method_56_code 60 = .ok (.getfield 12, 3) := by decide +kernel
theorem d_D_scuff_63 : decode prog_1_method_56_code 63 = .ok (.getfield 399, 3) := by decide +kernel
theorem d_D_scuff_66 : decode prog_1_method_56_code 66 = .ok (.bipush 8, 2) := by decide +kernel
theorem d_D_scuff_68 : decode prog_1_method_56_code 68 = .ok (.if_icmp .lt 10, 3) := by decide +kernel
theorem d_D_scuff_71 : decode prog_1_method_56_code 71 = .ok (.aload_n 0, 1) := by decide +kernel
theorem d_D_scuff_72 : decode prog_1_method_56_code 72 = .ok (.bipush (-5), 2) := by decide +kernel
theorem d_D_scuff_74 : decode prog_1_method_56_code 74 = .ok (.invokevirtual 108, 3) := by decide +kernel
theorem d_D_scuff_77 : decode prog_1_method_56_code 77 = .ok (.ireturn, 1) := by decide +kernel
theorem d_D_scuff_78 : decode prog_1_method_56_code 78 = .ok (.aload_n 0, 1) := by decide +kernel
theorem d_D_scuff_79 : decode prog_1_method_56_code 79 = .ok (.getfield 12, 3) := by decide +kernel
theorem d_D_scuff_82 : decode prog_1_method_56_code 82 = .ok (.getfield 402, 3) := by decide +kernel
theorem d_D_scuff_85 : decode prog_1_method_56_code 85 = .ok (.aload_n 0, 1) := by decide +kernel
theorem d_D_scuff_86 : decode prog_1_method_56_code 86 = .ok (.getfield 12, 3) := by decide +kernel
theorem d_D_scuff_89 : decode prog_1_method_56_code 89 = .ok (.getfield 399, 3) := by decide +kernel
theorem d_D_scuff_92 : decode prog_1_method_56_code 92 = .ok (.aaload, 1) := by decide +kernel
theorem d_D_scuff_93 : decode prog_1_method_56_code 93 = .ok (.iload_n 1, 1) := by decide +kernel
theorem d_D_scuff_94 : decode prog_1_method_56_code 94 = .ok (.iload_n 2, 1) := by decide +kernel
theorem d_D_scuff_95 : decode prog_1_method_56_code 95 = .ok (.iload_n 3, 1) := by decide +kernel
theorem d_D_scuff_96 : decode prog_1_method_56_code 96 = .ok (.iload 4, 2) := by decide +kernel
theorem d_D_scuff_98 : decode prog_1_method_56_code 98 = .ok (.invokestatic 343, 3) := by decide +kernel
theorem d_D_scuff_101 : decode prog_1_method_56_code 101 = .ok (.aload_n 0, 1) := by decide +kernel
theorem d_D_scuff_102 : decode prog_1_method_56_code 102 = .ok (.getfield 12, 3) := by decide +kernel
theorem d_D_scuff_105 : decode prog_1_method_56_code 105 = .ok (.dup, 1) := by decide +kernel
theorem d_D_scuff_106 : decode prog_1_method_56_code 106 = .ok (.getfield 399, 3) := by decide +kernel
theorem d_D_scuff_109 : decode prog_1_method_56_code 109 = .ok (.iconst 1, 1) := by decide +kernel
theorem d_D_scuff_110 : decode prog_1_method_56_code 110 = .ok (.iadd, 1) := by decide +kernel
theorem d_D_scuff_111 : decode prog_1_method_56_code 111 = .ok (.putfield 399, 3) := by decide +kernel
theorem d_D_scuff_114 : decode prog_1_method_56_code 114 = .ok (.aload_n 0, 1) := by decide +kernel
theorem d_D_scuff_115 : decode prog_1_method_56_code 115 = .ok (.aload_n 0, 1) := by decide +kernel
theorem d_D_scuff_116 : decode prog_1_method_56_code 116 = .ok (.getfield 12, 3) := by decide +kernel
theorem d_D_scuff_119 : decode prog_1_method_56_code 119 = .ok (.getfield 399, 3) := by decide +kernel
theorem d_D_scuff_122 : decode prog_1_method_56_code 122 = .ok (.invokevirtual 130, 3) := by decide +kernel
theorem d_D_scuff_125 : decode prog_1_method_56_code 125 = .ok (.ireturn, 1) := by decide +kernel
def w_D_scuff {d : Nat} (hd : 2 ≤ d) := (show SS ("DebtDoors", prog_1_method_56_code, 5) (some .int) d 0 0 0 0 _ from (sS (p1 := 30) (sIf (pn := 30) (tt := 24) (xC (rOr (mm := 14) (rOr (mm := 5) (rJ2 (tgt := 24) j_eq (rIn 1 d_D_scuff_0 rfl) (rIn 2 d_D_scuff_1 rfl) d_D_scuff_2 (by decide)) (rNot (rNot (rJ1 (tgt := 24) k_eq (rS p_D_between (Nat.le_trans (Nat.le_of_ble_eq_true rfl) hd) ls_D_104 (rAi (rAi (rAi rA0 (rIn 3 d_D_scuff_5 rfl)) (rI d_D_scuff_6 rfl)) (rI d_D_scuff_7 rfl)) (by decide) d_D_scuff_8) d_D_scuff_11 (by decide))))) (rNot (rJ1 (tgt := 30) k_ne (rS p_D_between (Nat.le_trans (Nat.le_of_ble_eq_true rfl) hd) ls_D_104 (rAi (rAi (rAi rA0 (rIl d_D_scuff_14)) (rI d_D_scuff_16 rfl)) (rI d_D_scuff_17 rfl)) (by decide) d_D_scuff_18) d_D_scuff_21 (by decide))))) (sRi (xV lv_D_108 (xA (rAi (rAr rA0 (rAn 0 d_D_scuff_24 rfl)) (rI d_D_scuff_25 rfl))) (by decide) d_D_scuff_26) d_D_scuff_29 rfl)) (sS (p1 := 59) (sIf (pn := 59) (tt := 52) (xC (rOr (mm := 41) (rNot (rNot (rJ1 (tgt := 52) k_eq (rV p_To_has (Nat.le_trans (Nat.le_of_ble_eq_true rfl) hd) lv_D_137 (rAi (rAr rA0 (rFr fl_D_12 nk_11_0 (rAn 0 d_D_scuff_30 rfl) d_D_scuff_31)) (rIn 1 d_D_scuff_34 rfl)) (by decide) d_D_scuff_35) d_D_scuff_38 (by decide)))) (rNot (rJ1 (tgt := 59) k_ne (rV p_To_has (Nat.le_trans (Nat.le_of_ble_eq_true rfl) hd) lv_D_137 (rAi (rAr rA0 (rFr fl_D_12 nk_11_0 (rAn 0 d_D_scuff_41 rfl) d_D_scuff_42)) (rIn 2 d_D_scuff_45 rfl)) (by decide) d_D_scuff_46) d_D_scuff_49 (by decide))))) (sRi (xV lv_D_108 (xA (rAi (rAr rA0 (rAn 0 d_D_scuff_52 rfl)) (rB d_D_scuff_53 rfl))) (by decide) d_D_scuff_55) d_D_scuff_58 rfl)) (sS (p1 := 78) (sIf (pn := 78) (tt := 71) (xC (rNot (rJ2 (tgt := 78) j_lt (rF 9 fl_D_399 nk_9_9 (rFr fl_D_12 nk_11_0 (rAn 0 d_D_scuff_59 rfl) d_D_scuff_60) d_D_scuff_63 rfl) (rB d_D_scuff_66 rfl) d_D_scuff_68 (by decide)))) (sRi (xV lv_D_108 (xA (rAi (rAr rA0 (rAn 0 d_D_scuff_71 rfl)) (rB d_D_scuff_72 rfl))) (by decide) d_D_scuff_74) d_D_scuff_77 rfl)) (sS (p1 := 101) (sV (xSv ls_D_343 (xA (rAi (rAi (rAi (rAi (rAr rA0 (rAa (rFr fl_D_402 nk_9_4 (rFr fl_D_12 nk_11_0 (rAn 0 d_D_scuff_78 rfl) d_D_scuff_79) d_D_scuff_82) (rF 9 fl_D_399 nk_9_9 (rFr fl_D_12 nk_11_0 (rAn 0 d_D_scuff_85 rfl) d_D_scuff_86) d_D_scuff_89 rfl) d_D_scuff_92)) (rIn 1 d_D_scuff_93 rfl)) (rIn 2 d_D_scuff_94 rfl)) (rIn 3 d_D_scuff_95 rfl)) (rIl d_D_scuff_96))) (by decide) d_D_scuff_98)) (sS (p1 := 114) (sPo 9 o_add fl_D_399 fp_9_9 nk_9_9 (rFr fl_D_12 nk_11_0 (rAn 0 d_D_scuff_101 rfl) d_D_scuff_102) d_D_scuff_105 d_D_scuff_106 (rI d_D_scuff_109 rfl) d_D_scuff_110 d_D_scuff_111 rfl) (sRi (xV lv_D_130 (xA (rAi (rAr rA0 (rAn 0 d_D_scuff_114 rfl)) (rF 9 fl_D_399 nk_9_9 (rFr fl_D_12 nk_11_0 (rAn 0 d_D_scuff_115 rfl) d_D_scuff_116) d_D_scuff_119 rfl))) (by decide) d_D_scuff_122) d_D_scuff_125 rfl)))))))
def y_M_tellsFour : zMt := (⟨"DebtDoorsModel", "tellsFour", "(IIIIIII)I"⟩, prog_14_method_104_code, 9, some .int)
theorem d_M_tellsFour_0 : decode prog_14_method_104_code 0 = .ok (.aload_n 0, 1) := by decide +kernel
theorem d_M_tellsFour_1 : decode prog_14_method_104_code 1 = .ok (.iload 4, 2) := by decide +kernel
theorem d_M_tellsFour_3 : decode prog_14_method_104_code 3 = .ok (.invokevirtual 152, 3) := by decide +kernel
theorem d_M_tellsFour_6 : decode prog_14_method_104_code 6 = .ok (.ifCond .eq 12, 3) := by decide +kernel
theorem d_M_tellsFour_9 : decode prog_14_method_104_code 9 = .ok (.aload_n 0, 1) := by decide +kernel
theorem d_M_tellsFour_10 : decode prog_14_method_104_code 10 = .ok (.iload 5, 2) := by decide +kernel
theorem d_M_tellsFour_12 : decode prog_14_method_104_code 12 = .ok (.invokevirtual 152, 3) := by decide +kernel
theorem d_M_tellsFour_15 : decode prog_14_method_104_code 15 = .ok (.ifCond .ne 10, 3) := by decide +kernel
theorem d_M_tellsFour_18 : decode prog_14_method_104_code 18 = .ok (.aload_n 0, 1) := by decide +kernel
theorem d_M_tellsFour_19 : decode prog_14_method_104_code 19 = .ok (.bipush (-2), 2) := by decide +kernel
theorem d_M_tellsFour_21 : decode prog_14_method_104_code 21 = .ok (.invokevirtual 127, 3) := by decide +kernel
theorem d_M_tellsFour_24 : decode prog_14_method_104_code 24 = .ok (.ireturn, 1) := by decide +kernel
theorem d_M_tellsFour_25 : decode prog_14_method_104_code 25 = .ok (.aload_n 0, 1) := by decide +kernel
theorem d_M_tellsFour_26 : decode prog_14_method_104_code 26 = .ok (.getfield 24, 3) := by decide +kernel
theorem d_M_tellsFour_29 : decode prog_14_method_104_code 29 = .ok (.iload_n 2, 1) := by decide +kernel
theorem d_M_tellsFour_30 : decode prog_14_method_104_code 30 = .ok (.iaload, 1) := by decide +kernel
theorem d_M_tellsFour_31 : decode prog_14_method_104_code 31 = .ok (.iload_n 3, 1) := by decide +kernel
theorem d_M_tellsFour_32 : decode prog_14_method_104_code 32 = .ok (.if_icmp .ne 10, 3) := by decide +kernel
theorem d_M_tellsFour_35 : decode prog_14_method_104_code 35 = .ok (.aload_n 0, 1) := by decide +kernel
theorem d_M_tellsFour_36 : decode prog_14_method_104_code 36 = .ok (.bipush (-5), 2) := by decide +kernel
theorem d_M_tellsFour_38 : decode prog_14_method_104_code 38 = .ok (.invokevirtual 127, 3) := by decide +kernel
theorem d_M_tellsFour_41 : decode prog_14_method_104_code 41 = .ok (.ireturn, 1) := by decide +kernel
theorem d_M_tellsFour_42 : decode prog_14_method_104_code 42 = .ok (.iload_n 1, 1) := by decide +kernel
theorem d_M_tellsFour_43 : decode prog_14_method_104_code 43 = .ok (.iconst 4, 1) := by decide +kernel
theorem d_M_tellsFour_44 : decode prog_14_method_104_code 44 = .ok (.aload_n 0, 1) := by decide +kernel
theorem d_M_tellsFour_45 : decode prog_14_method_104_code 45 = .ok (.getfield 24, 3) := by decide +kernel
theorem d_M_tellsFour_48 : decode prog_14_method_104_code 48 = .ok (.iload_n 2, 1) := by decide +kernel
theorem d_M_tellsFour_49 : decode prog_14_method_104_code 49 = .ok (.iaload, 1) := by decide +kernel
theorem d_M_tellsFour_50 : decode prog_14_method_104_code 50 = .ok (.imul, 1) := by decide +kernel
theorem d_M_tellsFour_51 : decode prog_14_method_104_code 51 = .ok (.iadd, 1) := by decide +kernel
theorem d_M_tellsFour_52 : decode prog_14_method_104_code 52 = .ok (.istore 8, 2) := by decide +kernel
theorem d_M_tellsFour_54 : decode prog_14_method_104_code 54 = .ok (.aload_n 0, 1) := by decide +kernel
theorem d_M_tellsFour_55 : decode prog_14_method_104_code 55 = .ok (.getfield 24, 3) := by decide +kernel
theorem d_M_tellsFour_58 : decode prog_14_method_104_code 58 = .ok (.iload 8, 2) := by decide +kernel
theorem d_M_tellsFour_60 : decode prog_14_method_104_code 60 = .ok (.iload 4, 2) := by decide +kernel
theorem d_M_tellsFour_62 : decode prog_14_method_104_code 62 = .ok (.iastore, 1) := by decide +kernel
theorem d_M_tellsFour_63 : decode prog_14_method_104_code 63 = .ok (.aload_n 0, 1) := by decide +kernel
theorem d_M_tellsFour_64 : decode prog_14_method_104_code 64 = .ok (.getfield 24, 3) := by decide +kernel
theorem d_M_tellsFour_67 : decode prog_14_method_104_code 67 = .ok (.iload 8, 2) := by decide +kernel
theorem d_M_tellsFour_69 : decode prog_14_method_104_code 69 = .ok (.iconst 1, 1) := by decide +kernel
theorem d_M_tellsFour_70 : decode prog_14_method_104_code 70 = .ok (.iadd, 1) := by decide +kernel
theorem d_M_tellsFour_71 : decode prog_14_method_104_code 71 = .ok (.iload 5, 2) := by decide +kernel
theorem d_M_tellsFour_73 : decode prog_14_method_104_code 73 = .ok (.iastore, 1) := by decide +kernel
theorem d_M_tellsFour_74 : decode prog_14_method_104_code 74 = .ok (.aload_n 0, 1) := by decide +kernel
theorem d_M_tellsFour_75 : decode prog_14_method_104_code 75 = .ok (.getfield 24, 3) := by decide +kernel
theorem d_M_tellsFour_78 : decode prog_14_method_104_code 78 = .ok (.iload 8, 2) := by decide +kernel
theorem d_M_tellsFour_80 : decode prog_14_method_104_code 80 = .ok (.iconst 2, 1) := by decide +kernel
theorem d_M_tellsFour_81 : decode prog_14_method_104_code 81 = .ok (.iadd, 1) := by decide +kernel
theorem d_M_tellsFour_82 : decode prog_14_method_104_code 82 = .ok (.iload 6, 2) := by decide +kernel
theorem d_M_tellsFour_84 : decode prog_14_method_104_code 84 = .ok (.iastore, 1) := by decide +kernel
theorem d_M_tellsFour_85 : decode prog_14_method_104_code 85 = .ok (.aload_n 0, 1) := by decide +kernel
theorem d_M_tellsFour_86 : decode prog_14_method_104_code 86 = .ok (.getfield 24, 3) := by decide +kernel
theorem d_M_tellsFour_89 : decode prog_14_method_104_code 89 = .ok (.iload 8, 2) := by decide +kernel
theorem d_M_tellsFour_91 : decode prog_14_method_104_code 91 = .ok (.iconst 3, 1) := by decide +kernel
theorem d_M_tellsFour_92 : decode prog_14_method_104_code 92 = .ok (.iadd, 1) := by decide +kernel
theorem d_M_tellsFour_93 : decode prog_14_method_104_code 93 = .ok (.iload 7, 2) := by decide +kernel
theorem d_M_tellsFour_95 : decode prog_14_method_104_code 95 = .ok (.iastore, 1) := by decide +kernel
theorem d_M_tellsFour_96 : decode prog_14_method_104_code 96 = .ok (.aload_n 0, 1) := by decide +kernel
theorem d_M_tellsFour_97 : decode prog_14_method_104_code 97 = .ok (.getfield 24, 3) := by decide +kernel
theorem d_M_tellsFour_100 : decode prog_14_method_104_code 100 = .ok (.iload_n 2, 1) := by decide +kernel
theorem d_M_tellsFour_101 : decode prog_14_method_104_code 101 = .ok (.dup2, 1) := by decide +kernel
theorem d_M_tellsFour_102 : decode prog_14_method_104_code 102 = .ok (.iaload, 1) := by decide +kernel
theorem d_M_tellsFour_103 : decode prog_14_method_104_code 103 = .ok (.iconst 1, 1) := by decide +kernel
theorem d_M_tellsFour_104 : decode prog_14_method_104_code 104 = .ok (.iadd, 1) := by decide +kernel
theorem d_M_tellsFour_105 : decode prog_14_method_104_code 105 = .ok (.iastore, 1) := by decide +kernel
theorem d_M_tellsFour_106 : decode prog_14_method_104_code 106 = .ok (.aload_n 0, 1) := by decide +kernel
theorem d_M_tellsFour_107 : decode prog_14_method_104_code 107 = .ok (.aload_n 0, 1) := by decide +kernel
theorem d_M_tellsFour_108 : decode prog_14_method_104_code 108 = .ok (.getfield 24, 3) := by decide +kernel
theorem d_M_tellsFour_111 : decode prog_14_method_104_code 111 = .ok (.iload_n 2, 1) := by decide +kernel
theorem d_M_tellsFour_112 : decode prog_14_method_104_code 112 = .ok (.iaload, 1) := by decide +kernel
theorem d_M_tellsFour_113 : decode prog_14_method_104_code 113 = .ok (.invokevirtual 14, 3) := by decide +kernel
theorem d_M_tellsFour_116 : decode prog_14_method_104_code 116 = .ok (.ireturn, 1) := by decide +kernel
def w_M_tellsFour {d : Nat} (hd : 3 ≤ d) := (show SS ("DebtDoorsModel", prog_14_method_104_code, 9) (some .int) d 0 0 0 0 _ from (sS (p1 := 25) (sIf (pn := 25) (tt := 18) (xC (rOr (mm := 9) (rNot (rNot (rJ1 (tgt := 18) k_eq (rV p_M_isPerson (Nat.le_trans (Nat.le_of_ble_eq_true rfl) hd) lv_M_152 (rAi (rAr rA0 (rAn 0 d_M_tellsFour_0 rfl)) (rIl d_M_tellsFour_1)) (by decide) d_M_tellsFour_3) d_M_tellsFour_6 (by decide)))) (rNot (rJ1 (tgt := 25) k_ne (rV p_M_isPerson (Nat.le_trans (Nat.le_of_ble_eq_true rfl) hd) lv_M_152 (rAi (rAr rA0 (rAn 0 d_M_tellsFour_9 rfl)) (rIl d_M_tellsFour_10)) (by decide) d_M_tellsFour_12) d_M_tellsFour_15 (by decide))))) (sRi (xV lv_M_127 (xA (rAi (rAr rA0 (rAn 0 d_M_tellsFour_18 rfl)) (rB d_M_tellsFour_19 rfl))) (by decide) d_M_tellsFour_21) d_M_tellsFour_24 rfl)) (sS (p1 := 42) (sIf (pn := 42) (tt := 35) (xC (rNot (rJ2 (tgt := 42) j_ne (rIa (rFr fl_M_24 nk_12_2 (rAn 0 d_M_tellsFour_25 rfl) d_M_tellsFour_26) (rIn 2 d_M_tellsFour_29 rfl) d_M_tellsFour_30) (rIn 3 d_M_tellsFour_31 rfl) d_M_tellsFour_32 (by decide)))) (sRi (xV lv_M_127 (xA (rAi (rAr rA0 (rAn 0 d_M_tellsFour_35 rfl)) (rB d_M_tellsFour_36 rfl))) (by decide) d_M_tellsFour_38) d_M_tellsFour_41 rfl)) (sS (p1 := 54) (sI (xE (r2 o_add (rIn 1 d_M_tellsFour_42 rfl) (r2 o_mul (rI d_M_tellsFour_43 rfl) (rIa (rFr fl_M_24 nk_12_2 (rAn 0 d_M_tellsFour_44 rfl) d_M_tellsFour_45) (rIn 2 d_M_tellsFour_48 rfl) d_M_tellsFour_49) d_M_tellsFour_50) d_M_tellsFour_51)) d_M_tellsFour_52 (by decide)) (sS (p1 := 63) (sAs (rFr fl_M_24 nk_12_2 (rAn 0 d_M_tellsFour_54 rfl) d_M_tellsFour_55) (rIl d_M_tellsFour_58) (xE (rIl d_M_tellsFour_60)) d_M_tellsFour_62) (sS (p1 := 74) (sAs (rFr fl_M_24 nk_12_2 (rAn 0 d_M_tellsFour_63 rfl) d_M_tellsFour_64) (r2 o_add (rIl d_M_tellsFour_67) (rI d_M_tellsFour_69 rfl) d_M_tellsFour_70) (xE (rIl d_M_tellsFour_71)) d_M_tellsFour_73) (sS (p1 := 85) (sAs (rFr fl_M_24 nk_12_2 (rAn 0 d_M_tellsFour_74 rfl) d_M_tellsFour_75) (r2 o_add (rIl d_M_tellsFour_78) (rI d_M_tellsFour_80 rfl) d_M_tellsFour_81) (xE (rIl d_M_tellsFour_82)) d_M_tellsFour_84) (sS (p1 := 96) (sAs (rFr fl_M_24 nk_12_2 (rAn 0 d_M_tellsFour_85 rfl) d_M_tellsFour_86) (r2 o_add (rIl d_M_tellsFour_89) (rI d_M_tellsFour_91 rfl) d_M_tellsFour_92) (xE (rIl d_M_tellsFour_93)) d_M_tellsFour_95) (sS (p1 := 106) (sAo o_add (rFr fl_M_24 nk_12_2 (rAn 0 d_M_tellsFour_96 rfl) d_M_tellsFour_97) (rIn 2 d_M_tellsFour_100 rfl) d_M_tellsFour_101 d_M_tellsFour_102 (rI d_M_tellsFour_103 rfl) d_M_tellsFour_104 d_M_tellsFour_105) (sRi (xV lv_M_14 (xA (rAi (rAr rA0 (rAn 0 d_M_tellsFour_106 rfl)) (rIa (rFr fl_M_24 nk_12_2 (rAn 0 d_M_tellsFour_107 rfl) d_M_tellsFour_108) (rIn 2 d_M_tellsFour_111 rfl) d_M_tellsFour_112))) (by decide) d_M_tellsFour_113) d_M_tellsFour_116 rfl))))))))))
theorem m_M_tellsFour : Cond.instanceMethod y_M_tellsFour.1 ∈ zTb ∧ Cond.selects y_M_tellsFour.1.cls y_M_tellsFour.1 y_M_tellsFour.1 ∈ zTb ∧ Cond.initialized y_M_tellsFour.1.cls ∈ zTb ∧ Cond.code y_M_tellsFour.1 y_M_tellsFour.2.1 y_M_tellsFour.2.2.1 y_M_tellsFour.2.2.2 ∈ zTb ∧ (y_M_tellsFour.1.cls ≠ "java/lang/invoke/MethodHandle" ∧ y_M_tellsFour.1.cls ≠ "java/lang/invoke/VarHandle" ∧ (parseMethodDescriptor y_M_tellsFour.1.desc).map (fun d => d.parameters.length) = some 7) ∧ y_M_tellsFour.2.2.1 ≤ 20 :=
  ⟨(zTb_in 1900 (by decide +kernel) (by decide +kernel)), (List.mem_filter.mpr ⟨List.mem_append_left _ (by decide +kernel), by decide +kernel⟩), (zTb_in 151 (by decide +kernel) (by decide +kernel)), (zTb_in 1901 (by decide +kernel) (by decide +kernel)), by decide +kernel, by decide +kernel⟩
theorem lv_M_393 : zLv "DebtDoorsModel" 393 y_M_tellsFour 7 12 := ⟨⟨(zTb_in 1898 (by decide +kernel) (by decide +kernel)), m_M_tellsFour.1, m_M_tellsFour.2.1, m_M_tellsFour.2.2⟩, _, rfl, rfl⟩
def y_M_visit : zMt := (⟨"DebtDoorsModel", "visit", "(IIII)I"⟩, prog_14_method_103_code, 5, some .int)
theorem d_M_visit_0 : decode prog_14_method_103_code 0 = .ok (.iload_n 1, 1) := by decide +kernel
theorem d_M_visit_1 : decode prog_14_method_103_code 1 = .ok (.iload_n 2, 1) := by decide +kernel
theorem d_M_visit_2 : decode prog_14_method_103_code 2 = .ok (.if_icmp .eq 22, 3) := by decide +kernel
theorem d_M_visit_5 : decode prog_14_method_103_code 5 = .ok (.iload_n 3, 1) := by decide +kernel
theorem d_M_visit_6 : decode prog_14_method_103_code 6 = .ok (.invokestatic 140, 3) := by decide +kernel
theorem d_M_visit_9 : decode prog_14_method_103_code 9 = .ok (.ifCond .eq 15, 3) := by decide +kernel
theorem d_M_visit_12 : decode prog_14_method_103_code 12 = .ok (.iload 4, 2) := by decide +kernel
theorem d_M_visit_14 : decode prog_14_method_103_code 14 = .ok (.iconst 0, 1) := by decide +kernel
theorem d_M_visit_15 : decode prog_14_method_103_code 15 = .ok (.sipush 999, 3) := by decide +kernel
theorem d_M_visit_18 : decode prog_14_method_103_code 18 = .ok (.invokestatic 123, 3) := by decide +kernel
theorem d_M_visit_21 : decode prog_14_method_103_code 21 = .ok (.ifCond .ne 9, 3) := by decide +kernel
theorem d_M_visit_24 : decode prog_14_method_103_code 24 = .ok (.aload_n 0, 1) := by decide +kernel
theorem d_M_visit_25 : decode prog_14_method_103_code 25 = .ok (.iconst (-1), 1) := by decide +kernel
theorem d_M_visit_26 : decode prog_14_method_103_code 26 = .ok (.invokevirtual 127, 3) := by decide +kernel
theorem d_M_visit_29 : decode prog_14_method_103_code 29 = .ok (.ireturn, 1) := by decide +kernel
theorem d_M_visit_30 : decode prog_14_method_103_code 30 = .ok (.aload_n 0, 1) := by decide +kernel
theorem d_M_visit_31 : decode prog_14_method_103_code 31 = .ok (.bipush 87, 2) := by decide +kernel
theorem d_M_visit_33 : decode prog_14_method_103_code 33 = .ok (.sipush 153, 3) := by decide +kernel
theorem d_M_visit_36 : decode prog_14_method_103_code 36 = .ok (.bipush 8, 2) := by decide +kernel
theorem d_M_visit_38 : decode prog_14_method_103_code 38 = .ok (.iload_n 1, 1) := by decide +kernel
theorem d_M_visit_39 : decode prog_14_method_103_code 39 = .ok (.iload_n 2, 1) := by decide +kernel
theorem d_M_visit_40 : decode prog_14_method_103_code 40 = .ok (.iload_n 3, 1) := by decide +kernel
theorem d_M_visit_41 : decode prog_14_method_103_code 41 = .ok (.iload 4, 2) := by decide +kernel
theorem d_M_visit_43 : decode prog_14_method_103_code 43 = .ok (.invokevirtual 393, 3) := by decide +kernel
theorem d_M_visit_46 : decode prog_14_method_103_code 46 = .ok (.ireturn, 1) := by decide +kernel
def w_M_visit {d : Nat} (hd : 3 ≤ d) := (show SS ("DebtDoorsModel", prog_14_method_103_code, 5) (some .int) d 0 0 0 0 _ from (sS (p1 := 30) (sIf (pn := 30) (tt := 24) (xC (rOr (mm := 12) (rOr (mm := 5) (rJ2 (tgt := 24) j_eq (rIn 1 d_M_visit_0 rfl) (rIn 2 d_M_visit_1 rfl) d_M_visit_2 (by decide)) (rNot (rNot (rJ1 (tgt := 24) k_eq (rS p_M_isRoom (Nat.le_trans (Nat.le_of_ble_eq_true rfl) hd) ls_M_140 (rAi rA0 (rIn 3 d_M_visit_5 rfl)) (by decide) d_M_visit_6) d_M_visit_9 (by decide))))) (rNot (rJ1 (tgt := 30) k_ne (rS p_M_lies (Nat.le_trans (Nat.le_of_ble_eq_true rfl) hd) ls_M_123 (rAi (rAi (rAi rA0 (rIl d_M_visit_12)) (rI d_M_visit_14 rfl)) (rSi d_M_visit_15 rfl)) (by decide) d_M_visit_18) d_M_visit_21 (by decide))))) (sRi (xV lv_M_127 (xA (rAi (rAr rA0 (rAn 0 d_M_visit_24 rfl)) (rI d_M_visit_25 rfl))) (by decide) d_M_visit_26) d_M_visit_29 rfl)) (sRi (xV lv_M_393 (xA (rAi (rAi (rAi (rAi (rAi (rAi (rAi (rAr rA0 (rAn 0 d_M_visit_30 rfl)) (rB d_M_visit_31 rfl)) (rSi d_M_visit_33 rfl)) (rB d_M_visit_36 rfl)) (rIn 1 d_M_visit_38 rfl)) (rIn 2 d_M_visit_39 rfl)) (rIn 3 d_M_visit_40 rfl)) (rIl d_M_visit_41))) (by decide) d_M_visit_43) d_M_visit_46 rfl)))
def y_M_scuff : zMt := (⟨"DebtDoorsModel", "scuff", "(IIII)I"⟩, prog_14_method_130_code, 5, some .int)
theorem d_M_scuff_0 : decode prog_14_method_130_code 0 = .ok (.iload_n 1, 1) := by decide +kernel
theorem d_M_scuff_1 : decode prog_14_method_130_code 1 = .ok (.iload_n 2, 1) := by decide +kernel
theorem d_M_scuff_2 : decode prog_14_method_130_code 2 = .ok (.if_icmp .eq 20, 3) := by decide +kernel
theorem d_M_scuff_5 : decode prog_14_method_130_code 5 = .ok (.iload_n 3, 1) := by decide +kernel
theorem d_M_scuff_6 : decode prog_14_method_130_code 6 = .ok (.invokestatic 140, 3) := by decide +kernel
theorem d_M_scuff_9 : decode prog_14_method_130_code 9 = .ok (.ifCond .eq 13, 3) := by decide +kernel
theorem d_M_scuff_12 : decode prog_14_method_130_code 12 = .ok (.iload 4, 2) := by decide +kernel
theorem d_M_scuff_14 : decode prog_14_method_130_code 14 = .ok (.iconst 0, 1) := by decide +kernel
theorem d_M_scuff_15 : decode prog_14_method_130_code 15 = .ok (.iconst 1, 1) := by decide +kernel
theorem d_M_scuff_16 : decode prog_14_method_130_code 16 = .ok (.invokestatic 123, 3) := by decide +kernel
theorem d_M_scuff_19 : decode prog_14_method_130_code 19 = .ok (.ifCond .ne 9, 3) := by decide +kernel
theorem d_M_scuff_22 : decode prog_14_method_130_code 22 = .ok (.aload_n 0, 1) := by decide +kernel
theorem d_M_scuff_23 : decode prog_14_method_130_code 23 = .ok (.iconst (-1), 1) := by decide +kernel
theorem d_M_scuff_24 : decode prog_14_method_130_code 24 = .ok (.invokevirtual 127, 3) := by decide +kernel
theorem d_M_scuff_27 : decode prog_14_method_130_code 27 = .ok (.ireturn, 1) := by decide +kernel
theorem d_M_scuff_28 : decode prog_14_method_130_code 28 = .ok (.aload_n 0, 1) := by decide +kernel
theorem d_M_scuff_29 : decode prog_14_method_130_code 29 = .ok (.bipush 119, 2) := by decide +kernel
theorem d_M_scuff_31 : decode prog_14_method_130_code 31 = .ok (.sipush 154, 3) := by decide +kernel
theorem d_M_scuff_34 : decode prog_14_method_130_code 34 = .ok (.bipush 8, 2) := by decide +kernel
theorem d_M_scuff_36 : decode prog_14_method_130_code 36 = .ok (.iload_n 1, 1) := by decide +kernel
theorem d_M_scuff_37 : decode prog_14_method_130_code 37 = .ok (.iload_n 2, 1) := by decide +kernel
theorem d_M_scuff_38 : decode prog_14_method_130_code 38 = .ok (.iload_n 3, 1) := by decide +kernel
theorem d_M_scuff_39 : decode prog_14_method_130_code 39 = .ok (.iload 4, 2) := by decide +kernel
theorem d_M_scuff_41 : decode prog_14_method_130_code 41 = .ok (.invokevirtual 393, 3) := by decide +kernel
theorem d_M_scuff_44 : decode prog_14_method_130_code 44 = .ok (.ireturn, 1) := by decide +kernel
def w_M_scuff {d : Nat} (hd : 3 ≤ d) := (show SS ("DebtDoorsModel", prog_14_method_130_code, 5) (some .int) d 0 0 0 0 _ from (sS (p1 := 28) (sIf (pn := 28) (tt := 22) (xC (rOr (mm := 12) (rOr (mm := 5) (rJ2 (tgt := 22) j_eq (rIn 1 d_M_scuff_0 rfl) (rIn 2 d_M_scuff_1 rfl) d_M_scuff_2 (by decide)) (rNot (rNot (rJ1 (tgt := 22) k_eq (rS p_M_isRoom (Nat.le_trans (Nat.le_of_ble_eq_true rfl) hd) ls_M_140 (rAi rA0 (rIn 3 d_M_scuff_5 rfl)) (by decide) d_M_scuff_6) d_M_scuff_9 (by decide))))) (rNot (rJ1 (tgt := 28) k_ne (rS p_M_lies (Nat.le_trans (Nat.le_of_ble_eq_true rfl) hd) ls_M_123 (rAi (rAi (rAi rA0 (rIl d_M_scuff_12)) (rI d_M_scuff_14 rfl)) (rI d_M_scuff_15 rfl)) (by decide) d_M_scuff_16) d_M_scuff_19 (by decide))))) (sRi (xV lv_M_127 (xA (rAi (rAr rA0 (rAn 0 d_M_scuff_22 rfl)) (rI d_M_scuff_23 rfl))) (by decide) d_M_scuff_24) d_M_scuff_27 rfl)) (sRi (xV lv_M_393 (xA (rAi (rAi (rAi (rAi (rAi (rAi (rAi (rAr rA0 (rAn 0 d_M_scuff_28 rfl)) (rB d_M_scuff_29 rfl)) (rSi d_M_scuff_31 rfl)) (rB d_M_scuff_34 rfl)) (rIn 1 d_M_scuff_36 rfl)) (rIn 2 d_M_scuff_37 rfl)) (rIn 3 d_M_scuff_38 rfl)) (rIl d_M_scuff_39))) (by decide) d_M_scuff_41) d_M_scuff_44 rfl)))
theorem q_D_tell {d : Nat} (hd : 1 ≤ d) {μ : zMem} {C : Nat} {v h r m : Int} (hC : zkd C = 0 ∧ zln C = 4) : zSp d 0 0 y_D_tell zT0 [vr C, vi v, vi h, vi r, vi m] μ zT0 (fun q μ' => q = none ∧ μ' = zm (zm (zm (zm μ C 0 v) C 1 h) C 2 r) C 3 m) := by
  refine zSp.ss [vr C, vi v, vi h, vi r, vi m] rfl (w_D_tell hd) rfl rfl ?_
  (try simp only [zit_e, Bool.and_eq_true, Bool.or_eq_true, Bool.not_eq_true', Bool.and_eq_false_iff, Bool.or_eq_false_iff, Bool.not_eq_false', zbe, zdt, zdf, zb2_p, zbp_0, zbp_1, zbp_inj, zbp_01, Bool.true_eq_false, Bool.false_eq_true, true_and, and_true, Decidable.not_not, Classical.not_not, implies_true, List.nil_append, List.cons_append, List.append_assoc, Option.some.injEq, Sum.inl.injEq, zSw_c, zSw_n]); (try simp only [zit_e, Bool.and_eq_true, Bool.or_eq_true, Bool.not_eq_true', Bool.and_eq_false_iff, Bool.or_eq_false_iff, Bool.not_eq_false', zbe, zdt, zdf, zb2_p, zbp_0, zbp_1, zbp_inj, zbp_01, Bool.true_eq_false, Bool.false_eq_true, true_and, and_true, Decidable.not_not, Classical.not_not, implies_true, List.nil_append, List.cons_append, List.append_assoc, Option.some.injEq, Sum.inl.injEq, zSw_c, zSw_n, hC.1, hC.2]); (try simp only [zi_cs, zi_c0, zii_cs, zii_c0, zl_cs, zl_c0, zll_cs, zll_c0, zr_cs, zr_c0, zrr_cs, zrr_c0, zxs_cs, zxs_c0, zxx_cs, zxx_c0, zfree_c0, zfree_c1, zfree_cs, zfree_cz, zlong_i, zlong_r, zlong_x, zset_0, zset_s, true_and, and_true, Option.some.injEq, Sum.inl.injEq, Sum.inr.injEq, zb2_p, zbp_0, zbp_1, zbp_inj, zbp_01, Nat.zero_add, Nat.reduceAdd, implies_true, List.nil_append, List.cons_append, List.append_assoc, Int.not_lt, Int.not_le, Decidable.not_not, Int.zero_add, Int.reduceLE, Int.reduceLT, Int.reduceEq, Int.reduceNe, Int.reduceAdd, Int.reduceSub, Int.reduceMul, Int.reduceNeg, Int.reduceToNat, Nat.reduceMul, Nat.reduceLT, Nat.reduceEqDiff, and_self, ite_true, ite_false, zx1, zx2, zRecv, List.length_cons, List.length_nil, ne_eq, not_true_eq_false, not_false_eq_true, true_or, or_true, or_false, false_or, and_false, false_and, zf01, zf10, reduceCtorEq, zSw_c, zSw_n, zm_r, zit_T, zit_F, false_implies, true_implies, hC.1, hC.2])
theorem q_M_tellsFour {d : Nat} (hd : 5 ≤ d) {k : Int} {μ : zMem} {a b v h r m : Int} (hab : a = 153 ∧ b = 87 ∨ a = 154 ∧ b = 119) (hn : 0 ≤ μ 357 152 ∧ μ 357 152 ≤ 7) (ha : 0 ≤ μ 357 a ∧ μ 357 a ≤ 8) (hr : okR (μ 356)) : zSp d 0 0 y_M_tellsFour zT0 [vr 355, vi b, vi a, vi 8, vi v, vi h, vi r, vi m] μ zT0 (OM k μ (zit (¬ ((0 ≤ v ∧ v < μ 357 152) ∧ 0 ≤ h ∧ h < μ 357 152)) (-2) (zit (8 ≤ μ 357 a) (-5) 0)) (fun w μ2 => w = μ 357 a + 1 ∧ μ2 = zm (zm (zm (zm (zm (zm μ 357 (b + 4 * μ 357 a) v) 357 (b + 4 * μ 357 a + 1) h) 357 (b + 4 * μ 357 a + 2) r) 357 (b + 4 * μ 357 a + 3) m) 357 a (μ 357 a + 1)) 355 0 0)) := by
  refine zSp.ss [vr 355, vi b, vi a, vi 8, vi v, vi h, vi r, vi m, vx 0] rfl (w_M_tellsFour (Nat.le_trans (by decide) hd)) rfl rfl ?_
  (try simp only [zit_e, Bool.and_eq_true, Bool.or_eq_true, Bool.not_eq_true', Bool.and_eq_false_iff, Bool.or_eq_false_iff, Bool.not_eq_false', zbe, zdt, zdf, zb2_p, zbp_0, zbp_1, zbp_inj, zbp_01, Bool.true_eq_false, Bool.false_eq_true, true_and, and_true, Decidable.not_not, Classical.not_not, implies_true, List.nil_append, List.cons_append, List.append_assoc, Option.some.injEq, Sum.inl.injEq, zSw_c, zSw_n]); (try simp only [zit_e, Bool.and_eq_true, Bool.or_eq_true, Bool.not_eq_true', Bool.and_eq_false_iff, Bool.or_eq_false_iff, Bool.not_eq_false', zbe, zdt, zdf, zb2_p, zbp_0, zbp_1, zbp_inj, zbp_01, Bool.true_eq_false, Bool.false_eq_true, true_and, and_true, Decidable.not_not, Classical.not_not, implies_true, List.nil_append, List.cons_append, List.append_assoc, Option.some.injEq, Sum.inl.injEq, zSw_c, zSw_n, zc_355, f_M_isPerson, g_M_isPerson]); (try simp only [zi_cs, zi_c0, zii_cs, zii_c0, zl_cs, zl_c0, zll_cs, zll_c0, zr_cs, zr_c0, zrr_cs, zrr_c0, zxs_cs, zxs_c0, zxx_cs, zxx_c0, zfree_c0, zfree_c1, zfree_cs, zfree_cz, zlong_i, zlong_r, zlong_x, zset_0, zset_s, true_and, and_true, Option.some.injEq, Sum.inl.injEq, Sum.inr.injEq, zb2_p, zbp_0, zbp_1, zbp_inj, zbp_01, Nat.zero_add, Nat.reduceAdd, implies_true, List.nil_append, List.cons_append, List.append_assoc, Int.not_lt, Int.not_le, Decidable.not_not, Int.zero_add, Int.reduceLE, Int.reduceLT, Int.reduceEq, Int.reduceNe, Int.reduceAdd, Int.reduceSub, Int.reduceMul, Int.reduceNeg, Int.reduceToNat, Nat.reduceMul, Nat.reduceLT, Nat.reduceEqDiff, and_self, ite_true, ite_false, zx1, zx2, zRecv, List.length_cons, List.length_nil, ne_eq, not_true_eq_false, not_false_eq_true, true_or, or_true, or_false, false_or, and_false, false_and, zf01, zf10, reduceCtorEq, zSw_c, zSw_n, zm_r, zit_T, zit_F, false_implies, true_implies, zc_355, f_M_isPerson, g_M_isPerson])
  refine ⟨⟨hn, fun _ => hn⟩, ?_⟩
  refine zif (fun c1 => rfM_w (by omega) (by decide) hr ⟨_, rfl, OM.no (zit_t (by omega)) (by decide) PJm.rf⟩) (fun c1 => ?_)
  refine ⟨by omega, ?_⟩
  refine zif (fun c2 => rfM_w (by omega) (by decide) hr ⟨_, rfl, OM.no ((zit_f (by omega)).trans (zit_t (by omega))) (by decide) PJm.rf⟩) (fun c2 => ?_)
  have e : zit (¬ ((0 ≤ v ∧ v < μ 357 152) ∧ 0 ≤ h ∧ h < μ 357 152)) (-2) (zit (8 ≤ μ 357 a) (-5) 0) = 0 := (zit_f (by omega)).trans (zit_f (by omega))
  (repeat (first | rw [zit_f (by omega)] | rw [zit_t (by omega)]))
  refine ⟨by ((try simp only [zI_e]); (first | done | omega | skip)), by omega, by omega, by ((try simp only [zI_e]); (first | done | omega | skip)), by omega, by omega, by ((try simp only [zI_e]); (first | done | omega | skip)), by omega, by omega, by ((try simp only [zI_e]); (first | done | omega | skip)), by omega, by omega, by omega, by omega, by ((try simp only [zI_e]); (first | done | omega | skip)), by omega, ?_⟩
  exact acM_w (by omega) ⟨_, rfl, OM.yes (by omega) (by ((repeat refine HC.sm ?_ (by omega)); exact HC.rf)) ⟨rfl, rfl⟩⟩
noncomputable def fourC (n c v h r m mx : Int) : Int := zit (v = h ∨ ¬ (1 ≤ r ∧ r ≤ 3) ∨ ¬ (0 ≤ m ∧ m ≤ mx)) (-1) (zit (¬ ((0 ≤ v ∧ v < n) ∧ 0 ≤ h ∧ h < n)) (-2) (zit (8 ≤ c) (-5) 0))
theorem LC_visit {v h r m : Int} : LC y_D_visit y_M_visit [vi v, vi h, vi r, vi m] := LC.mk (fun k μ h0 h1 hJ => by
  obtain ⟨a1, a2, a3, a4, a5, a6, a7, a8, a9, a10⟩ := hJ.1
  have hn := a1.1
  have hv := a7.1
  refine ⟨fourC (μ 1 6) (μ 1 8) v h r m 999, fun w μ1 => w = μ 1 8 + 1 ∧ μ1 = zm (zm (zm (zm (zm (zm μ (11 + (μ 1 8).toNat) 0 v) (11 + (μ 1 8).toNat) 1 h) (11 + (μ 1 8).toNat) 2 r) (11 + (μ 1 8).toNat) 3 m) 1 8 (μ 1 8 + 1)) 0 15 0, fun μ1 w μ2 => w = μ1 357 153 + 1 ∧ μ2 = zm (zm (zm (zm (zm (zm μ1 357 (87 + 4 * μ1 357 153) v) 357 (87 + 4 * μ1 357 153 + 1) h) 357 (87 + 4 * μ1 357 153 + 2) r) 357 (87 + 4 * μ1 357 153 + 3) m) 357 153 (μ1 357 153 + 1)) 355 0 0, ?_, ?_, ?_, ?_⟩
  · unfold fourC zit
    repeat' split
    all_goals omega
  · refine zCw.use (zSp.ss [vr 0, vi v, vi h, vi r, vi m] rfl (w_D_visit (d := 100) (by decide)) rfl rfl ?_) (by decide) (fun q μ' e => e)
    (try simp only [zit_e, Bool.and_eq_true, Bool.or_eq_true, Bool.not_eq_true', Bool.and_eq_false_iff, Bool.or_eq_false_iff, Bool.not_eq_false', zbe, zdt, zdf, zb2_p, zbp_0, zbp_1, zbp_inj, zbp_01, Bool.true_eq_false, Bool.false_eq_true, true_and, and_true, Decidable.not_not, Classical.not_not, implies_true, List.nil_append, List.cons_append, List.append_assoc, Option.some.injEq, Sum.inl.injEq, zSw_c, zSw_n]); (try simp only [zit_e, Bool.and_eq_true, Bool.or_eq_true, Bool.not_eq_true', Bool.and_eq_false_iff, Bool.or_eq_false_iff, Bool.not_eq_false', zbe, zdt, zdf, zb2_p, zbp_0, zbp_1, zbp_inj, zbp_01, Bool.true_eq_false, Bool.false_eq_true, true_and, and_true, Decidable.not_not, Classical.not_not, implies_true, List.nil_append, List.cons_append, List.append_assoc, Option.some.injEq, Sum.inl.injEq, zSw_c, zSw_n, zc_0, zc_1, f_D_between, g_D_between, f_To_has, g_To_has]); (try simp only [zi_cs, zi_c0, zii_cs, zii_c0, zl_cs, zl_c0, zll_cs, zll_c0, zr_cs, zr_c0, zrr_cs, zrr_c0, zxs_cs, zxs_c0, zxx_cs, zxx_c0, zfree_c0, zfree_c1, zfree_cs, zfree_cz, zlong_i, zlong_r, zlong_x, zset_0, zset_s, true_and, and_true, Option.some.injEq, Sum.inl.injEq, Sum.inr.injEq, zb2_p, zbp_0, zbp_1, zbp_inj, zbp_01, Nat.zero_add, Nat.reduceAdd, implies_true, List.nil_append, List.cons_append, List.append_assoc, Int.not_lt, Int.not_le, Decidable.not_not, Int.zero_add, Int.reduceLE, Int.reduceLT, Int.reduceEq, Int.reduceNe, Int.reduceAdd, Int.reduceSub, Int.reduceMul, Int.reduceNeg, Int.reduceToNat, Nat.reduceMul, Nat.reduceLT, Nat.reduceEqDiff, and_self, ite_true, ite_false, zx1, zx2, zRecv, List.length_cons, List.length_nil, ne_eq, not_true_eq_false, not_false_eq_true, true_or, or_true, or_false, false_or, and_false, false_and, zf01, zf10, reduceCtorEq, zSw_c, zSw_n, zm_r, zit_T, zit_F, false_implies, true_implies, zc_0, zc_1, f_D_between, g_D_between, f_To_has, g_To_has])
    refine zif (fun c1 => rfD_w (by omega) (by decide) (hJ.rD h0 h1) ⟨_, rfl, OD.no (zit_t (by omega)) (by decide) PJc.rf⟩) (fun c1 => ?_)
    refine zif (fun c2 => rfD_w (by omega) (by decide) (hJ.rD h0 h1) ⟨_, rfl, OD.no ((zit_f (by omega)).trans (zit_t (by omega))) (by decide) PJc.rf⟩) (fun c2 => ?_)
    refine zif (fun c3 => rfD_w (by omega) (by decide) (hJ.rD h0 h1) ⟨_, rfl, OD.no ((zit_f (by omega)).trans ((zit_f (by omega)).trans (zit_t (by omega)))) (by decide) PJc.rf⟩) (fun c3 => ?_)
    have e : fourC (μ 1 6) (μ 1 8) v h r m 999 = 0 := (zit_f (by omega)).trans ((zit_f (by omega)).trans (zit_f (by omega)))
    have hz := zpa10 hv.1 (by omega)
    rw [hz.1.1]
    refine ⟨by omega, zCw.use (q_D_tell (d := 1) (by decide) hz.2.1) (by decide) (fun q μ1 e1 => ?_)⟩
    obtain ⟨rfl, rfl⟩ := e1
    have e8 : zm (zm (zm (zm μ (11 + (μ 1 8).toNat) 0 v) (11 + (μ 1 8).toNat) 1 h) (11 + (μ 1 8).toNat) 2 r) (11 + (μ 1 8).toNat) 3 m 1 = μ 1 := by rw [zm_off _ (by omega), zm_off _ (by omega), zm_off _ (by omega), zm_off _ (by omega)]
    rw [e8]
    refine ⟨rfl, by ((try simp only [zI_e]); (first | done | omega | skip)), ?_⟩
    exact acD_w (by omega) ⟨_, rfl, OD.yes (by omega) (by ((repeat refine HM.sm ?_ (by omega)); exact HM.rf)) ⟨rfl, rfl⟩⟩
  · intro μ1 hm
    have m7 := hm 357 (by decide)
    refine zCw.use (zSp.ss [vr 355, vi v, vi h, vi r, vi m] rfl (w_M_visit (d := 100) (by decide)) rfl rfl ?_) (by decide) (fun q μ' e => e)
    (try simp only [zit_e, Bool.and_eq_true, Bool.or_eq_true, Bool.not_eq_true', Bool.and_eq_false_iff, Bool.or_eq_false_iff, Bool.not_eq_false', zbe, zdt, zdf, zb2_p, zbp_0, zbp_1, zbp_inj, zbp_01, Bool.true_eq_false, Bool.false_eq_true, true_and, and_true, Decidable.not_not, Classical.not_not, implies_true, List.nil_append, List.cons_append, List.append_assoc, Option.some.injEq, Sum.inl.injEq, zSw_c, zSw_n]); (try simp only [zit_e, Bool.and_eq_true, Bool.or_eq_true, Bool.not_eq_true', Bool.and_eq_false_iff, Bool.or_eq_false_iff, Bool.not_eq_false', zbe, zdt, zdf, zb2_p, zbp_0, zbp_1, zbp_inj, zbp_01, Bool.true_eq_false, Bool.false_eq_true, true_and, and_true, Decidable.not_not, Classical.not_not, implies_true, List.nil_append, List.cons_append, List.append_assoc, Option.some.injEq, Sum.inl.injEq, zSw_c, zSw_n, zc_355, f_M_lies, g_M_lies, f_M_isRoom, g_M_isRoom]); (try simp only [zi_cs, zi_c0, zii_cs, zii_c0, zl_cs, zl_c0, zll_cs, zll_c0, zr_cs, zr_c0, zrr_cs, zrr_c0, zxs_cs, zxs_c0, zxx_cs, zxx_c0, zfree_c0, zfree_c1, zfree_cs, zfree_cz, zlong_i, zlong_r, zlong_x, zset_0, zset_s, true_and, and_true, Option.some.injEq, Sum.inl.injEq, Sum.inr.injEq, zb2_p, zbp_0, zbp_1, zbp_inj, zbp_01, Nat.zero_add, Nat.reduceAdd, implies_true, List.nil_append, List.cons_append, List.append_assoc, Int.not_lt, Int.not_le, Decidable.not_not, Int.zero_add, Int.reduceLE, Int.reduceLT, Int.reduceEq, Int.reduceNe, Int.reduceAdd, Int.reduceSub, Int.reduceMul, Int.reduceNeg, Int.reduceToNat, Nat.reduceMul, Nat.reduceLT, Nat.reduceEqDiff, and_self, ite_true, ite_false, zx1, zx2, zRecv, List.length_cons, List.length_nil, ne_eq, not_true_eq_false, not_false_eq_true, true_or, or_true, or_false, false_or, and_false, false_and, zf01, zf10, reduceCtorEq, zSw_c, zSw_n, zm_r, zit_T, zit_F, false_implies, true_implies, zc_355, f_M_lies, g_M_lies, f_M_isRoom, g_M_isRoom])
    refine zif (fun c1 => rfM_w (by omega) (by decide) (hJ.rM h0 h1 hm) ⟨_, rfl, OM.no (zit_t (by omega)) (by decide) PJm.rf⟩) (fun c1 => ?_)
    refine zCw.use (q_M_tellsFour (d := 5) (k := k) (by decide) (Or.inl ⟨rfl, rfl⟩) (by rw [m7, a1.2]; exact a1.1) (by rw [m7, a7.2.1]; exact hv) (hJ.rM h0 h1 hm)) (by decide) (fun q μ2 e => ?_)
    have ec : fourC (μ 1 6) (μ 1 8) v h r m 999 = zit (¬ ((0 ≤ v ∧ v < μ1 357 152) ∧ 0 ≤ h ∧ h < μ1 357 152)) (-2) (zit (8 ≤ μ1 357 153) (-5) 0) := by
      rw [m7, a1.2, a7.2.1]
      exact zit_f (by omega)
    rw [ec]
    exact e.q
  · rintro c w1 w2 μ1 μ2 hm ⟨rfl, rfl⟩ hc ⟨rfl, rfl⟩
    have hJ1 := hJ.m HC.rf hm
    clear hJ
    obtain ⟨a1, a2, a3, a4, a5, a6, a7, a8, a9, a10⟩ := hJ1.1
    have e153 := a7.2.1
    have c1 : ¬ (v = h ∨ ¬ (1 ≤ r ∧ r ≤ 3) ∨ ¬ (0 ≤ m ∧ m ≤ 999)) := fun q => by unfold fourC at c; rw [zit_t q] at c; omega
    have c2 : ¬ ¬ ((0 ≤ v ∧ v < μ 1 6) ∧ 0 ≤ h ∧ h < μ 1 6) := fun q => by unfold fourC at c; rw [zit_f c1, zit_t q] at c; omega
    have c3 : ¬ (8 ≤ μ 1 8) := fun q => by unfold fourC at c; rw [zit_f c1, zit_f c2, zit_t q] at c; omega
    rw [e153]
    refine ⟨rfl, JJ.ok (JJ.tw hJ1 ?_ (by ((repeat refine KCt.sm ?_ (by unfold scC; omega)); exact KCt.rf)) (by ((repeat first | refine KMt.sm ?_ (by unfold scM; omega) | refine KMt.zf ?_ (by unfold kfM; omega)); exact KMt.rf))) (by omega) rfl⟩
    refine ⟨?_, ?_, ?_, ?_, ?_, ?_, ?_, ?_, ?_, ?_⟩
    all_goals first
      | (first | (refine a1.c ?_ ?_ <;> ((repeat rw [zm_o (by omega)]); (try rfl); done)) | (refine a2.c (fun i x y => ?_) (fun i x y => ?_) <;> ((repeat rw [zm_o (by omega)]); (try rfl); done)) | (refine a3.c (fun i x y => ?_) (fun i x y => ?_) <;> (try apply And.intro) <;> ((repeat rw [zm_o (by omega)]); (try rfl); done)) | (refine a4.c ?_ (fun i x y => ?_) (fun i x y => ?_) <;> (try simp only [fD]) <;> ((repeat rw [zm_o (by omega)]); (try rfl); done)) | (refine a5.c ?_ ?_ <;> ((repeat rw [zm_o (by omega)]); (try rfl); done)) | (refine a6.c ?_ ?_ <;> ((repeat rw [zm_o (by omega)]); (try rfl); done)) | (refine a7.c ?_ (fun c p1 p2 i x y => ?_) ?_ (fun i x y => ?_) <;> ((repeat rw [zm_o (by omega)]); (try rfl); done)) | (refine a8.c ?_ (fun c p1 p2 i x y => ?_) ?_ (fun i x y => ?_) <;> ((repeat rw [zm_o (by omega)]); (try rfl); done)) | (refine a9.c ?_ (fun c p1 p2 i x y => ?_) (fun i x y => ?_) <;> ((repeat rw [zm_o (by omega)]); (try rfl); done)) | (refine a10.c ?_ ?_ ?_ <;> ((repeat rw [zm_o (by omega)]); (try rfl); done)))
      | skip
    refine a7.add (v := v) (h := h) (r := r) (m := m) (by omega) zm_s (fun c p1 p2 p3 i x y => by ((repeat rw [zm_o (by omega)]); (try rfl); done)) ⟨?_, ?_, ?_, ?_⟩ (by omega) (by rw [zm_s, e153]) (fun i x y => by ((repeat rw [zm_o (by omega)]); (try rfl); done)) ⟨?_, ?_, ?_, ?_⟩
    all_goals
      (repeat rw [zm_o (by omega)])
      rw [zm_s])
theorem LC_scuff {v h r m : Int} : LC y_D_scuff y_M_scuff [vi v, vi h, vi r, vi m] := LC.mk (fun k μ h0 h1 hJ => by
  obtain ⟨a1, a2, a3, a4, a5, a6, a7, a8, a9, a10⟩ := hJ.1
  have hn := a1.1
  have hv := a8.1
  refine ⟨fourC (μ 1 6) (μ 1 9) v h r m 1, fun w μ1 => w = μ 1 9 + 1 ∧ μ1 = zm (zm (zm (zm (zm (zm μ (20 + (μ 1 9).toNat) 0 v) (20 + (μ 1 9).toNat) 1 h) (20 + (μ 1 9).toNat) 2 r) (20 + (μ 1 9).toNat) 3 m) 1 9 (μ 1 9 + 1)) 0 15 0, fun μ1 w μ2 => w = μ1 357 154 + 1 ∧ μ2 = zm (zm (zm (zm (zm (zm μ1 357 (119 + 4 * μ1 357 154) v) 357 (119 + 4 * μ1 357 154 + 1) h) 357 (119 + 4 * μ1 357 154 + 2) r) 357 (119 + 4 * μ1 357 154 + 3) m) 357 154 (μ1 357 154 + 1)) 355 0 0, ?_, ?_, ?_, ?_⟩
  · unfold fourC zit
    repeat' split
    all_goals omega
  · refine zCw.use (zSp.ss [vr 0, vi v, vi h, vi r, vi m] rfl (w_D_scuff (d := 100) (by decide)) rfl rfl ?_) (by decide) (fun q μ' e => e)
    (try simp only [zit_e, Bool.and_eq_true, Bool.or_eq_true, Bool.not_eq_true', Bool.and_eq_false_iff, Bool.or_eq_false_iff, Bool.not_eq_false', zbe, zdt, zdf, zb2_p, zbp_0, zbp_1, zbp_inj, zbp_01, Bool.true_eq_false, Bool.false_eq_true, true_and, and_true, Decidable.not_not, Classical.not_not, implies_true, List.nil_append, List.cons_append, List.append_assoc, Option.some.injEq, Sum.inl.injEq, zSw_c, zSw_n]); (try simp only [zit_e, Bool.and_eq_true, Bool.or_eq_true, Bool.not_eq_true', Bool.and_eq_false_iff, Bool.or_eq_false_iff, Bool.not_eq_false', zbe, zdt, zdf, zb2_p, zbp_0, zbp_1, zbp_inj, zbp_01, Bool.true_eq_false, Bool.false_eq_true, true_and, and_true, Decidable.not_not, Classical.not_not, implies_true, List.nil_append, List.cons_append, List.append_assoc, Option.some.injEq, Sum.inl.injEq, zSw_c, zSw_n, zc_0, zc_1, f_D_between, g_D_between, f_To_has, g_To_has]); (try simp only [zi_cs, zi_c0, zii_cs, zii_c0, zl_cs, zl_c0, zll_cs, zll_c0, zr_cs, zr_c0, zrr_cs, zrr_c0, zxs_cs, zxs_c0, zxx_cs, zxx_c0, zfree_c0, zfree_c1, zfree_cs, zfree_cz, zlong_i, zlong_r, zlong_x, zset_0, zset_s, true_and, and_true, Option.some.injEq, Sum.inl.injEq, Sum.inr.injEq, zb2_p, zbp_0, zbp_1, zbp_inj, zbp_01, Nat.zero_add, Nat.reduceAdd, implies_true, List.nil_append, List.cons_append, List.append_assoc, Int.not_lt, Int.not_le, Decidable.not_not, Int.zero_add, Int.reduceLE, Int.reduceLT, Int.reduceEq, Int.reduceNe, Int.reduceAdd, Int.reduceSub, Int.reduceMul, Int.reduceNeg, Int.reduceToNat, Nat.reduceMul, Nat.reduceLT, Nat.reduceEqDiff, and_self, ite_true, ite_false, zx1, zx2, zRecv, List.length_cons, List.length_nil, ne_eq, not_true_eq_false, not_false_eq_true, true_or, or_true, or_false, false_or, and_false, false_and, zf01, zf10, reduceCtorEq, zSw_c, zSw_n, zm_r, zit_T, zit_F, false_implies, true_implies, zc_0, zc_1, f_D_between, g_D_between, f_To_has, g_To_has])
    refine zif (fun c1 => rfD_w (by omega) (by decide) (hJ.rD h0 h1) ⟨_, rfl, OD.no (zit_t (by omega)) (by decide) PJc.rf⟩) (fun c1 => ?_)
    refine zif (fun c2 => rfD_w (by omega) (by decide) (hJ.rD h0 h1) ⟨_, rfl, OD.no ((zit_f (by omega)).trans (zit_t (by omega))) (by decide) PJc.rf⟩) (fun c2 => ?_)
    refine zif (fun c3 => rfD_w (by omega) (by decide) (hJ.rD h0 h1) ⟨_, rfl, OD.no ((zit_f (by omega)).trans ((zit_f (by omega)).trans (zit_t (by omega)))) (by decide) PJc.rf⟩) (fun c3 => ?_)
    have e : fourC (μ 1 6) (μ 1 9) v h r m 1 = 0 := (zit_f (by omega)).trans ((zit_f (by omega)).trans (zit_f (by omega)))
    have hz := zpa10 hv.1 (by omega)
    rw [hz.1.2]
    refine ⟨by omega, zCw.use (q_D_tell (d := 1) (by decide) hz.2.2) (by decide) (fun q μ1 e1 => ?_)⟩
    obtain ⟨rfl, rfl⟩ := e1
    have e8 : zm (zm (zm (zm μ (20 + (μ 1 9).toNat) 0 v) (20 + (μ 1 9).toNat) 1 h) (20 + (μ 1 9).toNat) 2 r) (20 + (μ 1 9).toNat) 3 m 1 = μ 1 := by rw [zm_off _ (by omega), zm_off _ (by omega), zm_off _ (by omega), zm_off _ (by omega)]
    rw [e8]
    refine ⟨rfl, by ((try simp only [zI_e]); (first | done | omega | skip)), ?_⟩
    exact acD_w (by omega) ⟨_, rfl, OD.yes (by omega) (by ((repeat refine HM.sm ?_ (by omega)); exact HM.rf)) ⟨rfl, rfl⟩⟩
  · intro μ1 hm
    have m7 := hm 357 (by decide)
    refine zCw.use (zSp.ss [vr 355, vi v, vi h, vi r, vi m] rfl (w_M_scuff (d := 100) (by decide)) rfl rfl ?_) (by decide) (fun q μ' e => e)
    (try simp only [zit_e, Bool.and_eq_true, Bool.or_eq_true, Bool.not_eq_true', Bool.and_eq_false_iff, Bool.or_eq_false_iff, Bool.not_eq_false', zbe, zdt, zdf, zb2_p, zbp_0, zbp_1, zbp_inj, zbp_01, Bool.true_eq_false, Bool.false_eq_true, true_and, and_true, Decidable.not_not, Classical.not_not, implies_true, List.nil_append, List.cons_append, List.append_assoc, Option.some.injEq, Sum.inl.injEq, zSw_c, zSw_n]); (try simp only [zit_e, Bool.and_eq_true, Bool.or_eq_true, Bool.not_eq_true', Bool.and_eq_false_iff, Bool.or_eq_false_iff, Bool.not_eq_false', zbe, zdt, zdf, zb2_p, zbp_0, zbp_1, zbp_inj, zbp_01, Bool.true_eq_false, Bool.false_eq_true, true_and, and_true, Decidable.not_not, Classical.not_not, implies_true, List.nil_append, List.cons_append, List.append_assoc, Option.some.injEq, Sum.inl.injEq, zSw_c, zSw_n, zc_355, f_M_lies, g_M_lies, f_M_isRoom, g_M_isRoom]); (try simp only [zi_cs, zi_c0, zii_cs, zii_c0, zl_cs, zl_c0, zll_cs, zll_c0, zr_cs, zr_c0, zrr_cs, zrr_c0, zxs_cs, zxs_c0, zxx_cs, zxx_c0, zfree_c0, zfree_c1, zfree_cs, zfree_cz, zlong_i, zlong_r, zlong_x, zset_0, zset_s, true_and, and_true, Option.some.injEq, Sum.inl.injEq, Sum.inr.injEq, zb2_p, zbp_0, zbp_1, zbp_inj, zbp_01, Nat.zero_add, Nat.reduceAdd, implies_true, List.nil_append, List.cons_append, List.append_assoc, Int.not_lt, Int.not_le, Decidable.not_not, Int.zero_add, Int.reduceLE, Int.reduceLT, Int.reduceEq, Int.reduceNe, Int.reduceAdd, Int.reduceSub, Int.reduceMul, Int.reduceNeg, Int.reduceToNat, Nat.reduceMul, Nat.reduceLT, Nat.reduceEqDiff, and_self, ite_true, ite_false, zx1, zx2, zRecv, List.length_cons, List.length_nil, ne_eq, not_true_eq_false, not_false_eq_true, true_or, or_true, or_false, false_or, and_false, false_and, zf01, zf10, reduceCtorEq, zSw_c, zSw_n, zm_r, zit_T, zit_F, false_implies, true_implies, zc_355, f_M_lies, g_M_lies, f_M_isRoom, g_M_isRoom])
    refine zif (fun c1 => rfM_w (by omega) (by decide) (hJ.rM h0 h1 hm) ⟨_, rfl, OM.no (zit_t (by omega)) (by decide) PJm.rf⟩) (fun c1 => ?_)
    refine zCw.use (q_M_tellsFour (d := 5) (k := k) (by decide) (Or.inr ⟨rfl, rfl⟩) (by rw [m7, a1.2]; exact a1.1) (by rw [m7, a8.2.1]; exact hv) (hJ.rM h0 h1 hm)) (by decide) (fun q μ2 e => ?_)
    have ec : fourC (μ 1 6) (μ 1 9) v h r m 1 = zit (¬ ((0 ≤ v ∧ v < μ1 357 152) ∧ 0 ≤ h ∧ h < μ1 357 152)) (-2) (zit (8 ≤ μ1 357 154) (-5) 0) := by
      rw [m7, a1.2, a8.2.1]
      exact zit_f (by omega)
    rw [ec]
    exact e.q
  · rintro c w1 w2 μ1 μ2 hm ⟨rfl, rfl⟩ hc ⟨rfl, rfl⟩
    have hJ1 := hJ.m HC.rf hm
    clear hJ
    obtain ⟨a1, a2, a3, a4, a5, a6, a7, a8, a9, a10⟩ := hJ1.1
    have e153 := a8.2.1
    have c1 : ¬ (v = h ∨ ¬ (1 ≤ r ∧ r ≤ 3) ∨ ¬ (0 ≤ m ∧ m ≤ 1)) := fun q => by unfold fourC at c; rw [zit_t q] at c; omega
    have c2 : ¬ ¬ ((0 ≤ v ∧ v < μ 1 6) ∧ 0 ≤ h ∧ h < μ 1 6) := fun q => by unfold fourC at c; rw [zit_f c1, zit_t q] at c; omega
    have c3 : ¬ (8 ≤ μ 1 9) := fun q => by unfold fourC at c; rw [zit_f c1, zit_f c2, zit_t q] at c; omega
    rw [e153]
    refine ⟨rfl, JJ.ok (JJ.tw hJ1 ?_ (by ((repeat refine KCt.sm ?_ (by unfold scC; omega)); exact KCt.rf)) (by ((repeat first | refine KMt.sm ?_ (by unfold scM; omega) | refine KMt.zf ?_ (by unfold kfM; omega)); exact KMt.rf))) (by omega) rfl⟩
    refine ⟨?_, ?_, ?_, ?_, ?_, ?_, ?_, ?_, ?_, ?_⟩
    all_goals first
      | (first | (refine a1.c ?_ ?_ <;> ((repeat rw [zm_o (by omega)]); (try rfl); done)) | (refine a2.c (fun i x y => ?_) (fun i x y => ?_) <;> ((repeat rw [zm_o (by omega)]); (try rfl); done)) | (refine a3.c (fun i x y => ?_) (fun i x y => ?_) <;> (try apply And.intro) <;> ((repeat rw [zm_o (by omega)]); (try rfl); done)) | (refine a4.c ?_ (fun i x y => ?_) (fun i x y => ?_) <;> (try simp only [fD]) <;> ((repeat rw [zm_o (by omega)]); (try rfl); done)) | (refine a5.c ?_ ?_ <;> ((repeat rw [zm_o (by omega)]); (try rfl); done)) | (refine a6.c ?_ ?_ <;> ((repeat rw [zm_o (by omega)]); (try rfl); done)) | (refine a7.c ?_ (fun c p1 p2 i x y => ?_) ?_ (fun i x y => ?_) <;> ((repeat rw [zm_o (by omega)]); (try rfl); done)) | (refine a8.c ?_ (fun c p1 p2 i x y => ?_) ?_ (fun i x y => ?_) <;> ((repeat rw [zm_o (by omega)]); (try rfl); done)) | (refine a9.c ?_ (fun c p1 p2 i x y => ?_) (fun i x y => ?_) <;> ((repeat rw [zm_o (by omega)]); (try rfl); done)) | (refine a10.c ?_ ?_ ?_ <;> ((repeat rw [zm_o (by omega)]); (try rfl); done)))
      | skip
    refine a8.add (v := v) (h := h) (r := r) (m := m) (by omega) zm_s (fun c p1 p2 p3 i x y => by ((repeat rw [zm_o (by omega)]); (try rfl); done)) ⟨?_, ?_, ?_, ?_⟩ (by omega) (by rw [zm_s, e153]) (fun i x y => by ((repeat rw [zm_o (by omega)]); (try rfl); done)) ⟨?_, ?_, ?_, ?_⟩
    all_goals
      (repeat rw [zm_o (by omega)])
      rw [zm_s])

