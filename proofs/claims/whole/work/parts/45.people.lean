/-! people, terms -/
def rfD (μ : zMem) (c : Int) : zMem := zm (zm μ 354 (-c) (μ 354 (-c) + 1)) 0 15 c
def rfM (μ : zMem) (c : Int) : zMem := zm (zm μ 355 0 c) 356 (-c) (μ 356 (-c) + 1)
/-- counts of what was refused, in bounds -/
def okR (f : Int → Int) : Prop := ∀ i : Int, 0 ≤ i → i ≤ 6 → 0 ≤ f i ∧ f i ≤ 1000000
noncomputable def personC (n p r w : Int) : Int := zit (¬ ((0 ≤ p ∧ p ≤ 9999) ∧ (1 ≤ r ∧ r ≤ 3) ∧ 0 ≤ w ∧ w ≤ 99)) (-1) (zit (7 ≤ n) (-5) n)
theorem rfD_w {d : Nat} {μ : zMem} {c : Int} {K : zRo} (hd : 3 ≤ d) (h : -6 ≤ c ∧ c ≤ 0) (hr : okR (μ 354)) (hk : K (some (vi c)) (rfD μ c)) : zCw d y_D_refuse [vr 0, vi c] μ K :=
  zCw.use (q_D_refuse (d := 2) (by decide) h (hr _ (by omega) (by omega))) (by omega) (fun q μ' e => by obtain ⟨rfl, rfl⟩ := e; exact hk)
theorem rfM_w {d : Nat} {μ : zMem} {c : Int} {K : zRo} (hd : 2 ≤ d) (h : -6 ≤ c ∧ c ≤ 0) (hr : okR (μ 356)) (hk : K (some (vi c)) (rfM μ c)) : zCw d y_M_refuses [vr 355, vi c] μ K :=
  zCw.use (q_M_refuses (d := 1) (by decide) h (hr _ (by omega) (by omega))) (by omega) (fun q μ' e => by obtain ⟨rfl, rfl⟩ := e; exact hk)
theorem acD_w {d : Nat} {μ : zMem} {c : Int} {K : zRo} (hd : 2 ≤ d) (hk : K (some (vi c)) (zm μ 0 15 0)) : zCw d y_D_accept [vr 0, vi c] μ K :=
  zCw.use (q_D_accept (d := 1) (by decide)) (by omega) (fun q μ' e => by obtain ⟨rfl, rfl⟩ := e; exact hk)
theorem acM_w {d : Nat} {μ : zMem} {c : Int} {K : zRo} (hd : 2 ≤ d) (hk : K (some (vi c)) (zm μ 355 0 0)) : zCw d y_M_good [vr 355, vi c] μ K :=
  zCw.use (q_M_good (d := 1) (by decide)) (by omega) (fun q μ' e => by obtain ⟨rfl, rfl⟩ := e; exact hk)
theorem seM_w {d : Nat} {μ : zMem} {c : Int} {K : zRo} (hd : 3 ≤ d) (hk : K (some (vi c)) (zm (zm μ 355 28 0) 355 0 0)) : zCw d y_M_settled [vr 355, vi c] μ K :=
  zCw.use (q_M_settled (d := 2) (by decide)) (by omega) (fun q μ' e => by obtain ⟨rfl, rfl⟩ := e; exact hk)
theorem fgD_w {d : Nat} {μ : zMem} {K : zRo} (hd : 2 ≤ d) (hk : K none (zm μ 111 3 0)) : zCw d y_Un_forget [vr 111] μ K :=
  zCw.use (q_Un_forget (d := 1) (by decide)) (by omega) (fun q μ' e => by obtain ⟨rfl, rfl⟩ := e; exact hk)
theorem m_D_refuse : Cond.instanceMethod y_D_refuse.1 ∈ zTb ∧ Cond.selects y_D_refuse.1.cls y_D_refuse.1 y_D_refuse.1 ∈ zTb ∧ Cond.initialized y_D_refuse.1.cls ∈ zTb ∧ Cond.code y_D_refuse.1 y_D_refuse.2.1 y_D_refuse.2.2.1 y_D_refuse.2.2.2 ∈ zTb ∧ (y_D_refuse.1.cls ≠ "java/lang/invoke/MethodHandle" ∧ y_D_refuse.1.cls ≠ "java/lang/invoke/VarHandle" ∧ (parseMethodDescriptor y_D_refuse.1.desc).map (fun d => d.parameters.length) = some 1) ∧ y_D_refuse.2.2.1 ≤ 20 :=
  ⟨(zTb_in 604 (by decide +kernel) (by decide +kernel)), (List.mem_filter.mpr ⟨List.mem_append_left _ (by decide +kernel), by decide +kernel⟩), (zTb_in 139 (by decide +kernel) (by decide +kernel)), (zTb_in 605 (by decide +kernel) (by decide +kernel)), by decide +kernel, by decide +kernel⟩
theorem lv_D_108 : zLv "DebtDoors" 108 y_D_refuse 1 11 := ⟨⟨(zTb_in 602 (by decide +kernel) (by decide +kernel)), m_D_refuse.1, m_D_refuse.2.1, m_D_refuse.2.2⟩, _, rfl, rfl⟩
theorem fl_D_121 : zFl "DebtDoors" 121 9 1 := ⟨_, rfl, by decide, (zTb_in 233 (by decide +kernel) (by decide +kernel)), rfl⟩
theorem fl_D_124 : zFl "DebtDoors" 124 9 2 := ⟨_, rfl, by decide, (zTb_in 236 (by decide +kernel) (by decide +kernel)), rfl⟩
theorem fp_9_6 : zFp 9 6 0 := ⟨_, rfl, rfl, rfl, by decide⟩
theorem m_Un_forget : Cond.instanceMethod y_Un_forget.1 ∈ zTb ∧ Cond.selects y_Un_forget.1.cls y_Un_forget.1 y_Un_forget.1 ∈ zTb ∧ Cond.initialized y_Un_forget.1.cls ∈ zTb ∧ Cond.code y_Un_forget.1 y_Un_forget.2.1 y_Un_forget.2.2.1 y_Un_forget.2.2.2 ∈ zTb ∧ (y_Un_forget.1.cls ≠ "java/lang/invoke/MethodHandle" ∧ y_Un_forget.1.cls ≠ "java/lang/invoke/VarHandle" ∧ (parseMethodDescriptor y_Un_forget.1.desc).map (fun d => d.parameters.length) = some 0) ∧ y_Un_forget.2.2.1 ≤ 20 :=
  ⟨(zTb_in 607 (by decide +kernel) (by decide +kernel)), (zTb_in 608 (by decide +kernel) (by decide +kernel)), (zTb_in 142 (by decide +kernel) (by decide +kernel)), (zTb_in 609 (by decide +kernel) (by decide +kernel)), by decide +kernel, by decide +kernel⟩
theorem lv_D_127 : zLv "DebtDoors" 127 y_Un_forget 0 10 := ⟨⟨(zTb_in 606 (by decide +kernel) (by decide +kernel)), m_Un_forget.1, m_Un_forget.2.1, m_Un_forget.2.2⟩, _, rfl, rfl⟩
theorem m_D_accept : Cond.instanceMethod y_D_accept.1 ∈ zTb ∧ Cond.selects y_D_accept.1.cls y_D_accept.1 y_D_accept.1 ∈ zTb ∧ Cond.initialized y_D_accept.1.cls ∈ zTb ∧ Cond.code y_D_accept.1 y_D_accept.2.1 y_D_accept.2.2.1 y_D_accept.2.2.2 ∈ zTb ∧ (y_D_accept.1.cls ≠ "java/lang/invoke/MethodHandle" ∧ y_D_accept.1.cls ≠ "java/lang/invoke/VarHandle" ∧ (parseMethodDescriptor y_D_accept.1.desc).map (fun d => d.parameters.length) = some 1) ∧ y_D_accept.2.2.1 ≤ 20 :=
  ⟨(zTb_in 612 (by decide +kernel) (by decide +kernel)), (List.mem_filter.mpr ⟨List.mem_append_left _ (by decide +kernel), by decide +kernel⟩), (zTb_in 139 (by decide +kernel) (by decide +kernel)), (zTb_in 613 (by decide +kernel) (by decide +kernel)), by decide +kernel, by decide +kernel⟩
theorem lv_D_130 : zLv "DebtDoors" 130 y_D_accept 1 11 := ⟨⟨(zTb_in 610 (by decide +kernel) (by decide +kernel)), m_D_accept.1, m_D_accept.2.1, m_D_accept.2.2⟩, _, rfl, rfl⟩
def y_D_person : zMt := (⟨"DebtDoors", "person", "(III)I"⟩, prog_1_method_2_code, 5, some .int)
theorem d_D_person_0 : decode prog_1_method_2_code 0 = .ok (.iload_n 1, 1) := by decide +kernel
theorem d_D_person_1 : decode prog_1_method_2_code 1 = .ok (.iconst 0, 1) := by decide +kernel
theorem d_D_person_2 : decode prog_1_method_2_code 2 = .ok (.sipush 9999, 3) := by decide +kernel
theorem d_D_person_5 : decode prog_1_method_2_code 5 = .ok (.invokestatic 104, 3) := by decide +kernel
theorem d_D_person_8 : decode prog_1_method_2_code 8 = .ok (.ifCond .eq 22, 3) := by decide +kernel
theorem d_D_person_11 : decode prog_1_method_2_code 11 = .ok (.iload_n 2, 1) := by decide +kernel
theorem d_D_person_12 : decode prog_1_method_2_code 12 = .ok (.iconst 1, 1) := by decide +kernel
theorem d_D_person_13 : decode prog_1_method_2_code 13 = .ok (.iconst 3, 1) := by decide +kernel
theorem d_D_person_14 : decode prog_1_method_2_code 14 = .ok (.invokestatic 104, 3) := by decide +kernel
theorem d_D_person_17 : decode prog_1_method_2_code 17 = .ok (.ifCond .eq 13, 3) := by decide +kernel
theorem d_D_person_20 : decode prog_1_method_2_code 20 = .ok (.iload_n 3, 1) := by decide +kernel
theorem d_D_person_21 : decode prog_1_method_2_code 21 = .ok (.iconst 0, 1) := by decide +kernel
theorem d_D_person_22 : decode prog_1_method_2_code 22 = .ok (.bipush 99, 2) := by decide +kernel
theorem d_D_person_24 : decode prog_1_method_2_code 24 = .ok (.invokestatic 104, 3) := by decide +kernel
theorem d_D_person_27 : decode prog_1_method_2_code 27 = .ok (.ifCond .ne 9, 3) := by decide +kernel
theorem d_D_person_30 : decode prog_1_method_2_code 30 = .ok (.aload_n 0, 1) := by decide +kernel
theorem d_D_person_31 : decode prog_1_method_2_code 31 = .ok (.iconst (-1), 1) := by decide +kernel
theorem d_D_person_32 : decode prog_1_method_2_code 32 = .ok (.invokevirtual 108, 3) := by decide +kernel
theorem d_D_person_35 : decode prog_1_method_2_code 35 = .ok (.ireturn, 1) := by decide +kernel
theorem d_D_person_36 : decode prog_1_method_2_code 36 = .ok (.aload_n 0, 1) := by decide +kernel
theorem d_D_person_37 : decode prog_1_method_2_code 37 = .ok (.getfield 12, 3) := by decide +kernel
theorem d_D_person_40 : decode prog_1_method_2_code 40 = .ok (.getfield 112, 3) := by decide +kernel
theorem d_D_person_43 : decode prog_1_method_2_code 43 = .ok (.bipush 7, 2) := by decide +kernel
theorem d_D_person_45 : decode prog_1_method_2_code 45 = .ok (.if_icmp .lt 10, 3) := by decide +kernel
theorem d_D_person_48 : decode prog_1_method_2_code 48 = .ok (.aload_n 0, 1) := by decide +kernel
theorem d_D_person_49 : decode prog_1_method_2_code 49 = .ok (.bipush (-5), 2) := by decide +kernel
theorem d_D_person_51 : decode prog_1_method_2_code 51 = .ok (.invokevirtual 108, 3) := by decide +kernel
theorem d_D_person_54 : decode prog_1_method_2_code 54 = .ok (.ireturn, 1) := by decide +kernel
theorem d_D_person_55 : decode prog_1_method_2_code 55 = .ok (.aload_n 0, 1) := by decide +kernel
theorem d_D_person_56 : decode prog_1_method_2_code 56 = .ok (.getfield 12, 3) := by decide +kernel
theorem d_D_person_59 : decode prog_1_method_2_code 59 = .ok (.getfield 112, 3) := by decide +kernel
theorem d_D_person_62 : decode prog_1_method_2_code 62 = .ok (.istore 4, 2) := by decide +kernel
theorem d_D_person_64 : decode prog_1_method_2_code 64 = .ok (.aload_n 0, 1) := by decide +kernel
theorem d_D_person_65 : decode prog_1_method_2_code 65 = .ok (.getfield 12, 3) := by decide +kernel
theorem d_D_person_68 : decode prog_1_method_2_code 68 = .ok (.getfield 115, 3) := by decide +kernel
theorem d_D_person_71 : decode prog_1_method_2_code 71 = .ok (.getfield 118, 3) := by decide +kernel
theorem d_D_person_74 : decode prog_1_method_2_code 74 = .ok (.iload 4, 2) := by decide +kernel
theorem d_D_person_76 : decode prog_1_method_2_code 76 = .ok (.iload_n 1, 1) := by decide +kernel
theorem d_D_person_77 : decode prog_1_method_2_code 77 = .ok (.iastore, 1) := by decide +kernel
theorem d_D_person_78 : decode prog_1_method_2_code 78 = .ok (.aload_n 0, 1) := by decide +kernel
theorem d_D_person_79 : decode prog_1_method_2_code 79 = .ok (.getfield 12, 3) := by decide +kernel
theorem d_D_person_82 : decode prog_1_method_2_code 82 = .ok (.getfield 121, 3) := by decide +kernel
theorem d_D_person_85 : decode prog_1_method_2_code 85 = .ok (.iload 4, 2) := by decide +kernel
theorem d_D_person_87 : decode prog_1_method_2_code 87 = .ok (.iload_n 2, 1) := by decide +kernel
theorem d_D_person_88 : decode prog_1_method_2_code 88 = .ok (.iastore, 1) := by decide +kernel
theorem d_D_person_89 : decode prog_1_method_2_code 89 = .ok (.aload_n 0, 1) := by decide +kernel
theorem d_D_person_90 : decode prog_1_method_2_code 90 = .ok (.getfield 12, 3) := by decide +kernel
theorem d_D_person_93 : decode prog_1_method_2_code 93 = .ok (.getfield 124, 3) := by decide +kernel
theorem d_D_person_96 : decode prog_1_method_2_code 96 = .ok (.iload 4, 2) := by decide +kernel
theorem d_D_person_98 : decode prog_1_method_2_code 98 = .ok (.iload_n 3, 1) := by decide +kernel
theorem d_D_person_99 : decode prog_1_method_2_code 99 = .ok (.iastore, 1) := by decide +kernel
theorem d_D_person_100 : decode prog_1_method_2_code 100 = .ok (.aload_n 0, 1) := by decide +kernel
theorem d_D_person_101 : decode prog_1_method_2_code 101 = .ok (.getfield 12, 3) := by decide +kernel
theorem d_D_person_104 : decode prog_1_method_2_code 104 = .ok (.iload 4, 2) := by decide +kernel
theorem d_D_person_106 : decode prog_1_method_2_code 106 = .ok (.iconst 1, 1) := by decide +kernel
theorem d_D_person_107 : decode prog_1_method_2_code 107 = .ok (.iadd, 1) := by decide +kernel
theorem d_D_person_108 : decode prog_1_method_2_code 108 = .ok (.putfield 112, 3) := by decide +kernel
theorem d_D_person_111 : decode prog_1_method_2_code 111 = .ok (.aload_n 0, 1) := by decide +kernel
theorem d_D_person_112 : decode prog_1_method_2_code 112 = .ok (.getfield 34, 3) := by decide +kernel
theorem d_D_person_115 : decode prog_1_method_2_code 115 = .ok (.invokevirtual 127, 3) := by decide +kernel
theorem d_D_person_118 : decode prog_1_method_2_code 118 = .ok (.aload_n 0, 1) := by decide +kernel
theorem d_D_person_119 : decode prog_1_method_2_code 119 = .ok (.iload 4, 2) := by decide +kernel
theorem d_D_person_121 : decode prog_1_method_2_code 121 = .ok (.invokevirtual 130, 3) := by decide +kernel
theorem d_D_person_124 : decode prog_1_method_2_code 124 = .ok (.ireturn, 1) := by decide +kernel
def w_D_person {d : Nat} (hd : 2 ≤ d) := (show SS ("DebtDoors", prog_1_method_2_code, 5) (some .int) d 0 0 0 0 _ from (sS (p1 := 36) (sIf (pn := 36) (tt := 30) (xC (rOr (mm := 20) (rOr (mm := 11) (rNot (rNot (rJ1 (tgt := 30) k_eq (rS p_D_between (Nat.le_trans (Nat.le_of_ble_eq_true rfl) hd) ls_D_104 (rAi (rAi (rAi rA0 (rIn 1 d_D_person_0 rfl)) (rI d_D_person_1 rfl)) (rSi d_D_person_2 rfl)) (by decide) d_D_person_5) d_D_person_8 (by decide)))) (rNot (rNot (rJ1 (tgt := 30) k_eq (rS p_D_between (Nat.le_trans (Nat.le_of_ble_eq_true rfl) hd) ls_D_104 (rAi (rAi (rAi rA0 (rIn 2 d_D_person_11 rfl)) (rI d_D_person_12 rfl)) (rI d_D_person_13 rfl)) (by decide) d_D_person_14) d_D_person_17 (by decide))))) (rNot (rJ1 (tgt := 36) k_ne (rS p_D_between (Nat.le_trans (Nat.le_of_ble_eq_true rfl) hd) ls_D_104 (rAi (rAi (rAi rA0 (rIn 3 d_D_person_20 rfl)) (rI d_D_person_21 rfl)) (rB d_D_person_22 rfl)) (by decide) d_D_person_24) d_D_person_27 (by decide))))) (sRi (xV lv_D_108 (xA (rAi (rAr rA0 (rAn 0 d_D_person_30 rfl)) (rI d_D_person_31 rfl))) (by decide) d_D_person_32) d_D_person_35 rfl)) (sS (p1 := 55) (sIf (pn := 55) (tt := 48) (xC (rNot (rJ2 (tgt := 55) j_lt (rF 6 fl_D_112 nk_9_6 (rFr fl_D_12 nk_11_0 (rAn 0 d_D_person_36 rfl) d_D_person_37) d_D_person_40 rfl) (rB d_D_person_43 rfl) d_D_person_45 (by decide)))) (sRi (xV lv_D_108 (xA (rAi (rAr rA0 (rAn 0 d_D_person_48 rfl)) (rB d_D_person_49 rfl))) (by decide) d_D_person_51) d_D_person_54 rfl)) (sS (p1 := 64) (sI (xE (rF 6 fl_D_112 nk_9_6 (rFr fl_D_12 nk_11_0 (rAn 0 d_D_person_55 rfl) d_D_person_56) d_D_person_59 rfl)) d_D_person_62 (by decide)) (sS (p1 := 78) (sAs (rFr fl_D_118 nk_1_0 (rFr fl_D_115 nk_9_0 (rFr fl_D_12 nk_11_0 (rAn 0 d_D_person_64 rfl) d_D_person_65) d_D_person_68) d_D_person_71) (rIl d_D_person_74) (xE (rIn 1 d_D_person_76 rfl)) d_D_person_77) (sS (p1 := 89) (sAs (rFr fl_D_121 nk_9_1 (rFr fl_D_12 nk_11_0 (rAn 0 d_D_person_78 rfl) d_D_person_79) d_D_person_82) (rIl d_D_person_85) (xE (rIn 2 d_D_person_87 rfl)) d_D_person_88) (sS (p1 := 100) (sAs (rFr fl_D_124 nk_9_2 (rFr fl_D_12 nk_11_0 (rAn 0 d_D_person_89 rfl) d_D_person_90) d_D_person_93) (rIl d_D_person_96) (xE (rIn 3 d_D_person_98 rfl)) d_D_person_99) (sS (p1 := 111) (sP 6 fl_D_112 fp_9_6 nk_9_6 (rFr fl_D_12 nk_11_0 (rAn 0 d_D_person_100 rfl) d_D_person_101) (xE (r2 o_add (rIl d_D_person_104) (rI d_D_person_106 rfl) d_D_person_107)) d_D_person_108 rfl) (sS (p1 := 118) (sV (xVv lv_D_127 (xA (rAr rA0 (rFr fl_D_34 nk_11_4 (rAn 0 d_D_person_111 rfl) d_D_person_112))) (by decide) d_D_person_115)) (sRi (xV lv_D_130 (xA (rAi (rAr rA0 (rAn 0 d_D_person_118 rfl)) (rIl d_D_person_119))) (by decide) d_D_person_121) d_D_person_124 rfl))))))))))
theorem m_M_isFact : Cond.static y_M_isFact.1 ∈ zTb ∧ Cond.initialized y_M_isFact.1.cls ∈ zTb ∧ Cond.code y_M_isFact.1 y_M_isFact.2.1 y_M_isFact.2.2.1 y_M_isFact.2.2.2 ∈ zTb ∧ (y_M_isFact.1.cls ≠ "java/lang/invoke/MethodHandle" ∧ y_M_isFact.1.cls ≠ "java/lang/invoke/VarHandle" ∧ (parseMethodDescriptor y_M_isFact.1.desc).map (fun d => d.parameters.length) = some 2) ∧ y_M_isFact.2.2.1 ≤ 20 :=
  ⟨(zTb_in 1539 (by decide +kernel) (by decide +kernel)), (zTb_in 151 (by decide +kernel) (by decide +kernel)), (zTb_in 1540 (by decide +kernel) (by decide +kernel)), by decide +kernel, by decide +kernel⟩
theorem ls_M_144 : zLs "DebtDoorsModel" 144 y_M_isFact 2 := Or.inl ⟨(zTb_in 1538 (by decide +kernel) (by decide +kernel)), m_M_isFact⟩
theorem m_M_refuses : Cond.instanceMethod y_M_refuses.1 ∈ zTb ∧ Cond.selects y_M_refuses.1.cls y_M_refuses.1 y_M_refuses.1 ∈ zTb ∧ Cond.initialized y_M_refuses.1.cls ∈ zTb ∧ Cond.code y_M_refuses.1 y_M_refuses.2.1 y_M_refuses.2.2.1 y_M_refuses.2.2.2 ∈ zTb ∧ (y_M_refuses.1.cls ≠ "java/lang/invoke/MethodHandle" ∧ y_M_refuses.1.cls ≠ "java/lang/invoke/VarHandle" ∧ (parseMethodDescriptor y_M_refuses.1.desc).map (fun d => d.parameters.length) = some 1) ∧ y_M_refuses.2.2.1 ≤ 20 :=
  ⟨(zTb_in 1520 (by decide +kernel) (by decide +kernel)), (List.mem_filter.mpr ⟨List.mem_append_left _ (by decide +kernel), by decide +kernel⟩), (zTb_in 151 (by decide +kernel) (by decide +kernel)), (zTb_in 1521 (by decide +kernel) (by decide +kernel)), by decide +kernel, by decide +kernel⟩
theorem lv_M_127 : zLv "DebtDoorsModel" 127 y_M_refuses 1 12 := ⟨⟨(zTb_in 1518 (by decide +kernel) (by decide +kernel)), m_M_refuses.1, m_M_refuses.2.1, m_M_refuses.2.2⟩, _, rfl, rfl⟩
theorem m_M_settled : Cond.instanceMethod y_M_settled.1 ∈ zTb ∧ Cond.selects y_M_settled.1.cls y_M_settled.1 y_M_settled.1 ∈ zTb ∧ Cond.initialized y_M_settled.1.cls ∈ zTb ∧ Cond.code y_M_settled.1 y_M_settled.2.1 y_M_settled.2.2.1 y_M_settled.2.2.2 ∈ zTb ∧ (y_M_settled.1.cls ≠ "java/lang/invoke/MethodHandle" ∧ y_M_settled.1.cls ≠ "java/lang/invoke/VarHandle" ∧ (parseMethodDescriptor y_M_settled.1.desc).map (fun d => d.parameters.length) = some 1) ∧ y_M_settled.2.2.1 ≤ 20 :=
  ⟨(zTb_in 1532 (by decide +kernel) (by decide +kernel)), (List.mem_filter.mpr ⟨List.mem_append_left _ (by decide +kernel), by decide +kernel⟩), (zTb_in 151 (by decide +kernel) (by decide +kernel)), (zTb_in 1533 (by decide +kernel) (by decide +kernel)), by decide +kernel, by decide +kernel⟩
theorem lv_M_130 : zLv "DebtDoorsModel" 130 y_M_settled 1 12 := ⟨⟨(zTb_in 1530 (by decide +kernel) (by decide +kernel)), m_M_settled.1, m_M_settled.2.1, m_M_settled.2.2⟩, _, rfl, rfl⟩
def y_M_person : zMt := (⟨"DebtDoorsModel", "person", "(III)I"⟩, prog_14_method_21_code, 5, some .int)
theorem d_M_person_0 : decode prog_14_method_21_code 0 = .ok (.iconst 0, 1) := by decide +kernel
theorem d_M_person_1 : decode prog_14_method_21_code 1 = .ok (.iload_n 1, 1) := by decide +kernel
theorem d_M_person_2 : decode prog_14_method_21_code 2 = .ok (.invokestatic 144, 3) := by decide +kernel
theorem d_M_person_5 : decode prog_14_method_21_code 5 = .ok (.ifCond .eq 19, 3) := by decide +kernel
theorem d_M_person_8 : decode prog_14_method_21_code 8 = .ok (.iconst 1, 1) := by decide +kernel
theorem d_M_person_9 : decode prog_14_method_21_code 9 = .ok (.iload_n 2, 1) := by decide +kernel
theorem d_M_person_10 : decode prog_14_method_21_code 10 = .ok (.invokestatic 144, 3) := by decide +kernel
theorem d_M_person_13 : decode prog_14_method_21_code 13 = .ok (.ifCond .eq 11, 3) := by decide +kernel
theorem d_M_person_16 : decode prog_14_method_21_code 16 = .ok (.iconst 2, 1) := by decide +kernel
theorem d_M_person_17 : decode prog_14_method_21_code 17 = .ok (.iload_n 3, 1) := by decide +kernel
theorem d_M_person_18 : decode prog_14_method_21_code 18 = .ok (.invokestatic 144, 3) := by decide +kernel
theorem d_M_person_21 : decode prog_14_method_21_code 21 = .ok (.ifCond .ne 9, 3) := by decide +kernel
theorem d_M_person_24 : decode prog_14_method_21_code 24 = .ok (.aload_n 0, 1) := by decide +kernel
theorem d_M_person_25 : decode prog_14_method_21_code 25 = .ok (.iconst (-1), 1) := by decide +kernel
theorem d_M_person_26 : decode prog_14_method_21_code 26 = .ok (.invokevirtual 127, 3) := by decide +kernel
theorem d_M_person_29 : decode prog_14_method_21_code 29 = .ok (.ireturn, 1) := by decide +kernel
theorem d_M_person_30 : decode prog_14_method_21_code 30 = .ok (.aload_n 0, 1) := by decide +kernel
theorem d_M_person_31 : decode prog_14_method_21_code 31 = .ok (.invokevirtual 133, 3) := by decide +kernel
theorem d_M_person_34 : decode prog_14_method_21_code 34 = .ok (.istore 4, 2) := by decide +kernel
theorem d_M_person_36 : decode prog_14_method_21_code 36 = .ok (.iload 4, 2) := by decide +kernel
theorem d_M_person_38 : decode prog_14_method_21_code 38 = .ok (.bipush 7, 2) := by decide +kernel
theorem d_M_person_40 : decode prog_14_method_21_code 40 = .ok (.if_icmp .ne 10, 3) := by decide +kernel
theorem d_M_person_43 : decode prog_14_method_21_code 43 = .ok (.aload_n 0, 1) := by decide +kernel
theorem d_M_person_44 : decode prog_14_method_21_code 44 = .ok (.bipush (-5), 2) := by decide +kernel
theorem d_M_person_46 : decode prog_14_method_21_code 46 = .ok (.invokevirtual 127, 3) := by decide +kernel
theorem d_M_person_49 : decode prog_14_method_21_code 49 = .ok (.ireturn, 1) := by decide +kernel
theorem d_M_person_50 : decode prog_14_method_21_code 50 = .ok (.aload_n 0, 1) := by decide +kernel
theorem d_M_person_51 : decode prog_14_method_21_code 51 = .ok (.getfield 24, 3) := by decide +kernel
theorem d_M_person_54 : decode prog_14_method_21_code 54 = .ok (.iload 4, 2) := by decide +kernel
theorem d_M_person_56 : decode prog_14_method_21_code 56 = .ok (.iconst 0, 1) := by decide +kernel
theorem d_M_person_57 : decode prog_14_method_21_code 57 = .ok (.invokestatic 148, 3) := by decide +kernel
theorem d_M_person_60 : decode prog_14_method_21_code 60 = .ok (.iload_n 1, 1) := by decide +kernel
theorem d_M_person_61 : decode prog_14_method_21_code 61 = .ok (.iastore, 1) := by decide +kernel
theorem d_M_person_62 : decode prog_14_method_21_code 62 = .ok (.aload_n 0, 1) := by decide +kernel
theorem d_M_person_63 : decode prog_14_method_21_code 63 = .ok (.getfield 24, 3) := by decide +kernel
theorem d_M_person_66 : decode prog_14_method_21_code 66 = .ok (.iload 4, 2) := by decide +kernel
theorem d_M_person_68 : decode prog_14_method_21_code 68 = .ok (.iconst 1, 1) := by decide +kernel
theorem d_M_person_69 : decode prog_14_method_21_code 69 = .ok (.invokestatic 148, 3) := by decide +kernel
theorem d_M_person_72 : decode prog_14_method_21_code 72 = .ok (.iload_n 2, 1) := by decide +kernel
theorem d_M_person_73 : decode prog_14_method_21_code 73 = .ok (.iastore, 1) := by decide +kernel
theorem d_M_person_74 : decode prog_14_method_21_code 74 = .ok (.aload_n 0, 1) := by decide +kernel
theorem d_M_person_75 : decode prog_14_method_21_code 75 = .ok (.getfield 24, 3) := by decide +kernel
theorem d_M_person_78 : decode prog_14_method_21_code 78 = .ok (.iload 4, 2) := by decide +kernel
theorem d_M_person_80 : decode prog_14_method_21_code 80 = .ok (.iconst 2, 1) := by decide +kernel
theorem d_M_person_81 : decode prog_14_method_21_code 81 = .ok (.invokestatic 148, 3) := by decide +kernel
theorem d_M_person_84 : decode prog_14_method_21_code 84 = .ok (.iload_n 3, 1) := by decide +kernel
theorem d_M_person_85 : decode prog_14_method_21_code 85 = .ok (.iastore, 1) := by decide +kernel
theorem d_M_person_86 : decode prog_14_method_21_code 86 = .ok (.aload_n 0, 1) := by decide +kernel
theorem d_M_person_87 : decode prog_14_method_21_code 87 = .ok (.getfield 24, 3) := by decide +kernel
theorem d_M_person_90 : decode prog_14_method_21_code 90 = .ok (.sipush 152, 3) := by decide +kernel
theorem d_M_person_93 : decode prog_14_method_21_code 93 = .ok (.dup2, 1) := by decide +kernel
theorem d_M_person_94 : decode prog_14_method_21_code 94 = .ok (.iaload, 1) := by decide +kernel
theorem d_M_person_95 : decode prog_14_method_21_code 95 = .ok (.iconst 1, 1) := by decide +kernel
theorem d_M_person_96 : decode prog_14_method_21_code 96 = .ok (.iadd, 1) := by decide +kernel
theorem d_M_person_97 : decode prog_14_method_21_code 97 = .ok (.iastore, 1) := by decide +kernel
theorem d_M_person_98 : decode prog_14_method_21_code 98 = .ok (.aload_n 0, 1) := by decide +kernel
theorem d_M_person_99 : decode prog_14_method_21_code 99 = .ok (.iload 4, 2) := by decide +kernel
theorem d_M_person_101 : decode prog_14_method_21_code 101 = .ok (.invokevirtual 130, 3) := by decide +kernel
theorem d_M_person_104 : decode prog_14_method_21_code 104 = .ok (.ireturn, 1) := by decide +kernel
def w_M_person {d : Nat} (hd : 4 ≤ d) := (show SS ("DebtDoorsModel", prog_14_method_21_code, 5) (some .int) d 0 0 0 0 _ from (sS (p1 := 30) (sIf (pn := 30) (tt := 24) (xC (rOr (mm := 16) (rOr (mm := 8) (rNot (rNot (rJ1 (tgt := 24) k_eq (rS p_M_isFact (Nat.le_trans (Nat.le_of_ble_eq_true rfl) hd) ls_M_144 (rAi (rAi rA0 (rI d_M_person_0 rfl)) (rIn 1 d_M_person_1 rfl)) (by decide) d_M_person_2) d_M_person_5 (by decide)))) (rNot (rNot (rJ1 (tgt := 24) k_eq (rS p_M_isFact (Nat.le_trans (Nat.le_of_ble_eq_true rfl) hd) ls_M_144 (rAi (rAi rA0 (rI d_M_person_8 rfl)) (rIn 2 d_M_person_9 rfl)) (by decide) d_M_person_10) d_M_person_13 (by decide))))) (rNot (rJ1 (tgt := 30) k_ne (rS p_M_isFact (Nat.le_trans (Nat.le_of_ble_eq_true rfl) hd) ls_M_144 (rAi (rAi rA0 (rI d_M_person_16 rfl)) (rIn 3 d_M_person_17 rfl)) (by decide) d_M_person_18) d_M_person_21 (by decide))))) (sRi (xV lv_M_127 (xA (rAi (rAr rA0 (rAn 0 d_M_person_24 rfl)) (rI d_M_person_25 rfl))) (by decide) d_M_person_26) d_M_person_29 rfl)) (sS (p1 := 36) (sI (xE (rV p_M_people (Nat.le_trans (Nat.le_of_ble_eq_true rfl) hd) lv_M_133 (rAr rA0 (rAn 0 d_M_person_30 rfl)) (by decide) d_M_person_31)) d_M_person_34 (by decide)) (sS (p1 := 50) (sIf (pn := 50) (tt := 43) (xC (rNot (rJ2 (tgt := 50) j_ne (rIl d_M_person_36) (rB d_M_person_38 rfl) d_M_person_40 (by decide)))) (sRi (xV lv_M_127 (xA (rAi (rAr rA0 (rAn 0 d_M_person_43 rfl)) (rB d_M_person_44 rfl))) (by decide) d_M_person_46) d_M_person_49 rfl)) (sS (p1 := 62) (sAs (rFr fl_M_24 nk_12_2 (rAn 0 d_M_person_50 rfl) d_M_person_51) (rS p_M_placeOf (Nat.le_trans (Nat.le_of_ble_eq_true rfl) hd) ls_M_148 (rAi (rAi rA0 (rIl d_M_person_54)) (rI d_M_person_56 rfl)) (by decide) d_M_person_57) (xE (rIn 1 d_M_person_60 rfl)) d_M_person_61) (sS (p1 := 74) (sAs (rFr fl_M_24 nk_12_2 (rAn 0 d_M_person_62 rfl) d_M_person_63) (rS p_M_placeOf (Nat.le_trans (Nat.le_of_ble_eq_true rfl) hd) ls_M_148 (rAi (rAi rA0 (rIl d_M_person_66)) (rI d_M_person_68 rfl)) (by decide) d_M_person_69) (xE (rIn 2 d_M_person_72 rfl)) d_M_person_73) (sS (p1 := 86) (sAs (rFr fl_M_24 nk_12_2 (rAn 0 d_M_person_74 rfl) d_M_person_75) (rS p_M_placeOf (Nat.le_trans (Nat.le_of_ble_eq_true rfl) hd) ls_M_148 (rAi (rAi rA0 (rIl d_M_person_78)) (rI d_M_person_80 rfl)) (by decide) d_M_person_81) (xE (rIn 3 d_M_person_84 rfl)) d_M_person_85) (sS (p1 := 98) (sAo o_add (rFr fl_M_24 nk_12_2 (rAn 0 d_M_person_86 rfl) d_M_person_87) (rSi d_M_person_90 rfl) d_M_person_93 d_M_person_94 (rI d_M_person_95 rfl) d_M_person_96 d_M_person_97) (sRi (xV lv_M_130 (xA (rAi (rAr rA0 (rAn 0 d_M_person_98 rfl)) (rIl d_M_person_99))) (by decide) d_M_person_101) d_M_person_104 rfl)))))))))
theorem q_D_person {d : Nat} (hd : 4 ≤ d) {μ : zMem} {p r w : Int} (hn : 0 ≤ μ 1 6 ∧ μ 1 6 ≤ 7) (hr : okR (μ 354)) : zSp d 0 0 y_D_person zT0 [vr 0, vi p, vi r, vi w] μ zT0 (fun q μ' => q = some (vi (personC (μ 1 6) p r w)) ∧ (personC (μ 1 6) p r w < 0 → μ' = rfD μ (personC (μ 1 6) p r w)) ∧ (0 ≤ personC (μ 1 6) p r w → (personC (μ 1 6) p r w = μ 1 6 ∧ μ 1 6 < 7 ∧ (0 ≤ p ∧ p ≤ 9999) ∧ (1 ≤ r ∧ r ≤ 3) ∧ 0 ≤ w ∧ w ≤ 99) ∧ μ' = zm (zm (zm (zm (zm (zm μ 3 (μ 1 6) p) 8 (μ 1 6) r) 9 (μ 1 6) w) 1 6 (μ 1 6 + 1)) 111 3 0) 0 15 0)) := by
  refine zSp.ss [vr 0, vi p, vi r, vi w, vx 0] rfl (w_D_person (Nat.le_trans (by decide) hd)) rfl rfl ?_
  (try simp only [zit_e, Bool.and_eq_true, Bool.or_eq_true, Bool.not_eq_true', Bool.and_eq_false_iff, Bool.or_eq_false_iff, Bool.not_eq_false', zbe, zdt, zdf, zb2_p, zbp_0, zbp_1, zbp_inj, zbp_01, Bool.true_eq_false, Bool.false_eq_true, true_and, and_true, Decidable.not_not, Classical.not_not, implies_true, List.nil_append, List.cons_append, List.append_assoc, Option.some.injEq, Sum.inl.injEq, zSw_c, zSw_n]); (try simp only [zit_e, Bool.and_eq_true, Bool.or_eq_true, Bool.not_eq_true', Bool.and_eq_false_iff, Bool.or_eq_false_iff, Bool.not_eq_false', zbe, zdt, zdf, zb2_p, zbp_0, zbp_1, zbp_inj, zbp_01, Bool.true_eq_false, Bool.false_eq_true, true_and, and_true, Decidable.not_not, Classical.not_not, implies_true, List.nil_append, List.cons_append, List.append_assoc, Option.some.injEq, Sum.inl.injEq, zSw_c, zSw_n, zc_0, zc_1, zc_2, zc_111, f_D_between, g_D_between]); (try simp only [zi_cs, zi_c0, zii_cs, zii_c0, zl_cs, zl_c0, zll_cs, zll_c0, zr_cs, zr_c0, zrr_cs, zrr_c0, zxs_cs, zxs_c0, zxx_cs, zxx_c0, zfree_c0, zfree_c1, zfree_cs, zfree_cz, zlong_i, zlong_r, zlong_x, zset_0, zset_s, true_and, and_true, Option.some.injEq, Sum.inl.injEq, Sum.inr.injEq, zb2_p, zbp_0, zbp_1, zbp_inj, zbp_01, Nat.zero_add, Nat.reduceAdd, implies_true, List.nil_append, List.cons_append, List.append_assoc, Int.not_lt, Int.not_le, Decidable.not_not, Int.zero_add, Int.reduceLE, Int.reduceLT, Int.reduceEq, Int.reduceNe, Int.reduceAdd, Int.reduceSub, Int.reduceMul, Int.reduceNeg, Int.reduceToNat, Nat.reduceMul, Nat.reduceLT, Nat.reduceEqDiff, and_self, ite_true, ite_false, zx1, zx2, zRecv, List.length_cons, List.length_nil, ne_eq, not_true_eq_false, not_false_eq_true, true_or, or_true, or_false, false_or, and_false, false_and, zf01, zf10, reduceCtorEq, zSw_c, zSw_n, zm_r, zit_T, zit_F, false_implies, true_implies, zc_0, zc_1, zc_2, zc_111, f_D_between, g_D_between])
  have neg : ∀ {c : Int} {A : Prop}, c < 0 → personC (μ 1 6) p r w = c → (∃ n, some (vi c) = some (vi n) ∧ n = personC (μ 1 6) p r w ∧ (personC (μ 1 6) p r w < 0 → rfD μ c = rfD μ (personC (μ 1 6) p r w)) ∧ (0 ≤ personC (μ 1 6) p r w → A)) := fun hc e => by
    rw [e]
    exact ⟨_, rfl, rfl, fun _ => rfl, fun h => absurd h (by omega)⟩
  refine zif (fun c1 => rfD_w (by omega) (by decide) hr (neg (by decide) (zit_t (by omega)))) (fun c1 => ?_)
  refine zif (fun c2 => rfD_w (by omega) (by decide) hr (neg (by decide) ((zit_f (by omega)).trans (zit_t c2)))) (fun c2 => ?_)
  have e : personC (μ 1 6) p r w = μ 1 6 := (zit_f (by omega)).trans (zit_f c2)
  rw [e]
  refine ⟨by omega, by omega, by omega, by omega, by omega, by omega, by ((try simp only [zI_e]); (first | done | omega | skip)), fgD_w (by omega) ⟨rfl, acD_w (by omega) ⟨_, rfl, rfl, fun h => absurd h (by omega), fun _ => ⟨by omega, rfl⟩⟩⟩⟩
theorem q_M_person {d : Nat} (hd : 4 ≤ d) {μ : zMem} {p r w : Int} (hn : 0 ≤ μ 357 152 ∧ μ 357 152 ≤ 7) (hr : okR (μ 356)) : zSp d 0 0 y_M_person zT0 [vr 355, vi p, vi r, vi w] μ zT0 (fun q μ' => q = some (vi (personC (μ 357 152) p r w)) ∧ (personC (μ 357 152) p r w < 0 → μ' = rfM μ (personC (μ 357 152) p r w)) ∧ (0 ≤ personC (μ 357 152) p r w → (personC (μ 357 152) p r w = μ 357 152 ∧ μ 357 152 < 7 ∧ (0 ≤ p ∧ p ≤ 9999) ∧ (1 ≤ r ∧ r ≤ 3) ∧ 0 ≤ w ∧ w ≤ 99) ∧ μ' = zm (zm (zm (zm (zm (zm μ 357 (μ 357 152) p) 357 (73 + 2 * μ 357 152) r) 357 (74 + 2 * μ 357 152) w) 357 152 (μ 357 152 + 1)) 355 28 0) 355 0 0)) := by
  refine zSp.ss [vr 355, vi p, vi r, vi w, vx 0] rfl (w_M_person (Nat.le_trans (by decide) hd)) rfl rfl ?_
  (try simp only [zit_e, Bool.and_eq_true, Bool.or_eq_true, Bool.not_eq_true', Bool.and_eq_false_iff, Bool.or_eq_false_iff, Bool.not_eq_false', zbe, zdt, zdf, zb2_p, zbp_0, zbp_1, zbp_inj, zbp_01, Bool.true_eq_false, Bool.false_eq_true, true_and, and_true, Decidable.not_not, Classical.not_not, implies_true, List.nil_append, List.cons_append, List.append_assoc, Option.some.injEq, Sum.inl.injEq, zSw_c, zSw_n]); (try simp only [zit_e, Bool.and_eq_true, Bool.or_eq_true, Bool.not_eq_true', Bool.and_eq_false_iff, Bool.or_eq_false_iff, Bool.not_eq_false', zbe, zdt, zdf, zb2_p, zbp_0, zbp_1, zbp_inj, zbp_01, Bool.true_eq_false, Bool.false_eq_true, true_and, and_true, Decidable.not_not, Classical.not_not, implies_true, List.nil_append, List.cons_append, List.append_assoc, Option.some.injEq, Sum.inl.injEq, zSw_c, zSw_n, zc_355, f_M_isFact, g_M_isFact, f_M_people, g_M_people, f_M_placeOf, g_M_placeOf]); (try simp only [zi_cs, zi_c0, zii_cs, zii_c0, zl_cs, zl_c0, zll_cs, zll_c0, zr_cs, zr_c0, zrr_cs, zrr_c0, zxs_cs, zxs_c0, zxx_cs, zxx_c0, zfree_c0, zfree_c1, zfree_cs, zfree_cz, zlong_i, zlong_r, zlong_x, zset_0, zset_s, true_and, and_true, Option.some.injEq, Sum.inl.injEq, Sum.inr.injEq, zb2_p, zbp_0, zbp_1, zbp_inj, zbp_01, Nat.zero_add, Nat.reduceAdd, implies_true, List.nil_append, List.cons_append, List.append_assoc, Int.not_lt, Int.not_le, Decidable.not_not, Int.zero_add, Int.reduceLE, Int.reduceLT, Int.reduceEq, Int.reduceNe, Int.reduceAdd, Int.reduceSub, Int.reduceMul, Int.reduceNeg, Int.reduceToNat, Nat.reduceMul, Nat.reduceLT, Nat.reduceEqDiff, and_self, ite_true, ite_false, zx1, zx2, zRecv, List.length_cons, List.length_nil, ne_eq, not_true_eq_false, not_false_eq_true, true_or, or_true, or_false, false_or, and_false, false_and, zf01, zf10, reduceCtorEq, zSw_c, zSw_n, zm_r, zit_T, zit_F, false_implies, true_implies, zc_355, f_M_isFact, g_M_isFact, f_M_people, g_M_people, f_M_placeOf, g_M_placeOf])
  have neg : ∀ {c : Int} {A : Prop}, c < 0 → personC (μ 357 152) p r w = c → (∃ n, some (vi c) = some (vi n) ∧ n = personC (μ 357 152) p r w ∧ (personC (μ 357 152) p r w < 0 → rfM μ c = rfM μ (personC (μ 357 152) p r w)) ∧ (0 ≤ personC (μ 357 152) p r w → A)) := fun hc e => by
    rw [e]
    exact ⟨_, rfl, rfl, fun _ => rfl, fun h => absurd h (by omega)⟩
  refine zif (fun c1 => rfM_w (by omega) (by decide) hr (neg (by decide) (zit_t (by omega)))) (fun c1 => ?_)
  refine zif (fun c2 => rfM_w (by omega) (by decide) hr (neg (by decide) ((zit_f (by omega)).trans (zit_t (by omega))))) (fun c2 => ?_)
  have e : personC (μ 357 152) p r w = μ 357 152 := (zit_f (by omega)).trans (zit_f (by omega))
  rw [e, show 73 + 2 * μ 357 152 + 1 - 1 = 73 + 2 * μ 357 152 by omega, show 73 + 2 * μ 357 152 + 2 - 1 = 74 + 2 * μ 357 152 by omega]
  (repeat (first | rw [zit_f (by omega)] | rw [zit_t (by omega)]))
  refine ⟨by omega, by omega, by omega, by omega, by omega, by omega, by omega, by omega, by omega, by ((try simp only [zI_e]); (first | done | omega | skip)), seM_w (by omega) ⟨_, rfl, rfl, fun h => absurd h (by omega), fun _ => ⟨by omega, rfl⟩⟩⟩

