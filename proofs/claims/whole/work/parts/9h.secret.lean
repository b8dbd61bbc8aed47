/-! denied debts, secret ones -/
theorem owL_ge {x : D4} : ∀ {l : List D4}, (∀ y, y ∈ l → okd y) → x ∈ l → x.2.2.1 ≤ owL x.1 x.2.1 l
  | [], _, h => by cases h
  | (p, q, m, s) :: l, h, hx => by
    have h2 := owL_l (a := x.1) (b := x.2.1) (l := l) (fun y hy => h y (List.mem_cons_of_mem _ hy))
    have h3 := (h (p, q, m, s) List.mem_cons_self).2.2.2.1
    simp only at h3
    rw [owL]
    rcases List.mem_cons.mp hx with rfl | hx
    · rw [if_pos ⟨rfl, rfl⟩]
      show m ≤ m + _
      omega
    · have := owL_ge (fun y hy => h y (List.mem_cons_of_mem _ hy)) hx
      split <;> omega
theorem dbt_m {A : Lg} {k : Int} (h0 : 0 ≤ k) (h1 : k < (A.2.1.length : Int)) : dbt A k ∈ A.2.1 := List.mem_of_getElem? (dfV_m h0 h1)
theorem dbt_o {A : Lg} {k : Int} (hA : okA A) (h0 : 0 ≤ k) (h1 : k < (A.2.1.length : Int)) : okd (dbt A k) := hA.2.1.2 _ (dbt_m h0 h1)
noncomputable def deA (Z : Zt) (F : Option (List Cls)) (A : Lg) (w : Int → Int) (S : List D4) : Int → Prop := fun d => soA Z F A w S (dbt A d).1 (dbt A d).2.1 (-(dbt A d).2.2.1)
theorem m_D_scuffsAreSo : Cond.instanceMethod y_D_scuffsAreSo.1 ∈ zTb ∧ Cond.selects y_D_scuffsAreSo.1.cls y_D_scuffsAreSo.1 y_D_scuffsAreSo.1 ∈ zTb ∧ Cond.initialized y_D_scuffsAreSo.1.cls ∈ zTb ∧ Cond.code y_D_scuffsAreSo.1 y_D_scuffsAreSo.2.1 y_D_scuffsAreSo.2.2.1 y_D_scuffsAreSo.2.2.2 ∈ zTb ∧ (y_D_scuffsAreSo.1.cls ≠ "java/lang/invoke/MethodHandle" ∧ y_D_scuffsAreSo.1.cls ≠ "java/lang/invoke/VarHandle" ∧ (parseMethodDescriptor y_D_scuffsAreSo.1.desc).map (fun d => d.parameters.length) = some 3) ∧ y_D_scuffsAreSo.2.2.1 ≤ 20 :=
  ⟨(zTb_in 1258 (by decide +kernel) (by decide +kernel)), (List.mem_filter.mpr ⟨List.mem_append_left _ (by decide +kernel), by decide +kernel⟩), (zTb_in 139 (by decide +kernel) (by decide +kernel)), (zTb_in 1259 (by decide +kernel) (by decide +kernel)), by decide +kernel, by decide +kernel⟩
theorem lv_D_405 : zLv "DebtDoors" 405 y_D_scuffsAreSo 3 11 := ⟨⟨(zTb_in 1256 (by decide +kernel) (by decide +kernel)), m_D_scuffsAreSo.1, m_D_scuffsAreSo.2.1, m_D_scuffsAreSo.2.2⟩, _, rfl, rfl⟩
def y_D_denied : zMt := (⟨"DebtDoors", "denied", "()I"⟩, prog_1_method_59_code, 4, some .int)
theorem d_D_denied_0 : decode prog_1_method_59_code 0 = .ok (.aload_n 0, 1) := by decide +kernel
theorem d_D_denied_1 : decode prog_1_method_59_code 1 = .ok (.getfield 12, 3) := by decide +kernel
theorem d_D_denied_4 : decode prog_1_method_59_code 4 = .ok (.getfield 115, 3) := by decide +kernel
theorem d_D_denied_7 : decode prog_1_method_59_code 7 = .ok (.astore_n 1, 1) := by decide +kernel
theorem d_D_denied_8 : decode prog_1_method_59_code 8 = .ok (.iconst 0, 1) := by decide +kernel
theorem d_D_denied_9 : decode prog_1_method_59_code 9 = .ok (.istore_n 2, 1) := by decide +kernel
theorem d_D_denied_10 : decode prog_1_method_59_code 10 = .ok (.iconst 0, 1) := by decide +kernel
theorem d_D_denied_11 : decode prog_1_method_59_code 11 = .ok (.istore_n 3, 1) := by decide +kernel
theorem d_D_denied_12 : decode prog_1_method_59_code 12 = .ok (.iload_n 3, 1) := by decide +kernel
theorem d_D_denied_13 : decode prog_1_method_59_code 13 = .ok (.aload_n 1, 1) := by decide +kernel
theorem d_D_denied_14 : decode prog_1_method_59_code 14 = .ok (.getfield 153, 3) := by decide +kernel
theorem d_D_denied_17 : decode prog_1_method_59_code 17 = .ok (.if_icmp .ge 41, 3) := by decide +kernel
theorem d_D_denied_20 : decode prog_1_method_59_code 20 = .ok (.aload_n 0, 1) := by decide +kernel
theorem d_D_denied_21 : decode prog_1_method_59_code 21 = .ok (.aload_n 1, 1) := by decide +kernel
theorem d_D_denied_22 : decode prog_1_method_59_code 22 = .ok (.getfield 157, 3) := by decide +kernel
theorem d_D_denied_25 : decode prog_1_method_59_code 25 = .ok (.iload_n 3, 1) := by decide +kernel
theorem d_D_denied_26 : decode prog_1_method_59_code 26 = .ok (.iaload, 1) := by decide +kernel
theorem d_D_denied_27 : decode prog_1_method_59_code 27 = .ok (.aload_n 1, 1) := by decide +kernel
theorem d_D_denied_28 : decode prog_1_method_59_code 28 = .ok (.getfield 160, 3) := by decide +kernel
theorem d_D_denied_31 : decode prog_1_method_59_code 31 = .ok (.iload_n 3, 1) := by decide +kernel
theorem d_D_denied_32 : decode prog_1_method_59_code 32 = .ok (.iaload, 1) := by decide +kernel
theorem d_D_denied_33 : decode prog_1_method_59_code 33 = .ok (.aload_n 1, 1) := by decide +kernel
theorem d_D_denied_34 : decode prog_1_method_59_code 34 = .ok (.getfield 163, 3) := by decide +kernel
theorem d_D_denied_37 : decode prog_1_method_59_code 37 = .ok (.iload_n 3, 1) := by decide +kernel
theorem d_D_denied_38 : decode prog_1_method_59_code 38 = .ok (.iaload, 1) := by decide +kernel
theorem d_D_denied_39 : decode prog_1_method_59_code 39 = .ok (.ineg, 1) := by decide +kernel
theorem d_D_denied_40 : decode prog_1_method_59_code 40 = .ok (.invokevirtual 405, 3) := by decide +kernel
theorem d_D_denied_43 : decode prog_1_method_59_code 43 = .ok (.ifCond .eq 9, 3) := by decide +kernel
theorem d_D_denied_46 : decode prog_1_method_59_code 46 = .ok (.iload_n 2, 1) := by decide +kernel
theorem d_D_denied_47 : decode prog_1_method_59_code 47 = .ok (.iconst 1, 1) := by decide +kernel
theorem d_D_denied_48 : decode prog_1_method_59_code 48 = .ok (.iload_n 3, 1) := by decide +kernel
theorem d_D_denied_49 : decode prog_1_method_59_code 49 = .ok (.ishl, 1) := by decide +kernel
theorem d_D_denied_50 : decode prog_1_method_59_code 50 = .ok (.ior, 1) := by decide +kernel
theorem d_D_denied_51 : decode prog_1_method_59_code 51 = .ok (.istore_n 2, 1) := by decide +kernel
theorem d_D_denied_52 : decode prog_1_method_59_code 52 = .ok (.iinc 3 1, 3) := by decide +kernel
theorem d_D_denied_55 : decode prog_1_method_59_code 55 = .ok (.goto (-43), 3) := by decide +kernel
theorem d_D_denied_58 : decode prog_1_method_59_code 58 = .ok (.iload_n 2, 1) := by decide +kernel
theorem d_D_denied_59 : decode prog_1_method_59_code 59 = .ok (.ireturn, 1) := by decide +kernel
def w_D_denied {d : Nat} (hd : 1 ≤ d) := (show SS ("DebtDoors", prog_1_method_59_code, 4) (some .int) d 0 0 0 0 _ from (sS (p1 := 8) (sRn 1 (rFr fl_D_115 nk_9_0 (rFr fl_D_12 nk_11_0 (rAn 0 d_D_denied_0 rfl) d_D_denied_1) d_D_denied_4) d_D_denied_7 rfl (by decide)) (sS (p1 := 10) (sIn 2 (xE (rI d_D_denied_8 rfl)) d_D_denied_9 rfl (by decide)) (sS (p1 := 58) (sS (p1 := 12) (sIn 3 (xE (rI d_D_denied_10 rfl)) d_D_denied_11 rfl (by decide)) (sLp (ps := 52) (tt := 20) (pn := 58) (p1 := 0) (p2 := 0) (xC (rNot (rJ2 (tgt := 58) j_ge (rIn 3 d_D_denied_12 rfl) (rF 5 fl_D_153 nk_1_5 (rAn 1 d_D_denied_13 rfl) d_D_denied_14 rfl) d_D_denied_17 (by decide)))) (sIf (pn := 52) (tt := 46) (xNot (xJ1 (tgt := 52) k_eq (xV lv_D_405 (xA (rAi (rAi (rAi (rAr rA0 (rAn 0 d_D_denied_20 rfl)) (rIa (rFr fl_D_157 nk_1_1 (rAn 1 d_D_denied_21 rfl) d_D_denied_22) (rIn 3 d_D_denied_25 rfl) d_D_denied_26)) (rIa (rFr fl_D_160 nk_1_2 (rAn 1 d_D_denied_27 rfl) d_D_denied_28) (rIn 3 d_D_denied_31 rfl) d_D_denied_32)) (rNg (rIa (rFr fl_D_163 nk_1_3 (rAn 1 d_D_denied_33 rfl) d_D_denied_34) (rIn 3 d_D_denied_37 rfl) d_D_denied_38) d_D_denied_39))) (by decide) d_D_denied_40) d_D_denied_43 (by decide))) (sIn 2 (xE (r2 o_or (rIn 2 d_D_denied_46 rfl) (r2 o_shl (rI d_D_denied_47 rfl) (rIn 3 d_D_denied_48 rfl) d_D_denied_49) d_D_denied_50)) d_D_denied_51 rfl (by decide))) (sGo (pn := 12) (sInc d_D_denied_52 (by decide)) d_D_denied_55 (by decide)))) (sRi (xE (rIn 2 d_D_denied_58 rfl)) d_D_denied_59 rfl)))))
theorem m_M_areSo : Cond.instanceMethod y_M_areSo.1 ∈ zTb ∧ Cond.selects y_M_areSo.1.cls y_M_areSo.1 y_M_areSo.1 ∈ zTb ∧ Cond.initialized y_M_areSo.1.cls ∈ zTb ∧ Cond.code y_M_areSo.1 y_M_areSo.2.1 y_M_areSo.2.2.1 y_M_areSo.2.2.2 ∈ zTb ∧ (y_M_areSo.1.cls ≠ "java/lang/invoke/MethodHandle" ∧ y_M_areSo.1.cls ≠ "java/lang/invoke/VarHandle" ∧ (parseMethodDescriptor y_M_areSo.1.desc).map (fun d => d.parameters.length) = some 3) ∧ y_M_areSo.2.2.1 ≤ 20 :=
  ⟨(zTb_in 2032 (by decide +kernel) (by decide +kernel)), (List.mem_filter.mpr ⟨List.mem_append_left _ (by decide +kernel), by decide +kernel⟩), (zTb_in 151 (by decide +kernel) (by decide +kernel)), (zTb_in 2033 (by decide +kernel) (by decide +kernel)), by decide +kernel, by decide +kernel⟩
theorem lv_M_468 : zLv "DebtDoorsModel" 468 y_M_areSo 3 12 := ⟨⟨(zTb_in 2030 (by decide +kernel) (by decide +kernel)), m_M_areSo.1, m_M_areSo.2.1, m_M_areSo.2.2⟩, _, rfl, rfl⟩
def y_M_denied : zMt := (⟨"DebtDoorsModel", "denied", "()I"⟩, prog_14_method_134_code, 3, some .int)
theorem d_M_denied_0 : decode prog_14_method_134_code 0 = .ok (.iconst 0, 1) := by decide +kernel
theorem d_M_denied_1 : decode prog_14_method_134_code 1 = .ok (.istore_n 1, 1) := by decide +kernel
theorem d_M_denied_2 : decode prog_14_method_134_code 2 = .ok (.iconst 0, 1) := by decide +kernel
theorem d_M_denied_3 : decode prog_14_method_134_code 3 = .ok (.istore_n 2, 1) := by decide +kernel
theorem d_M_denied_4 : decode prog_14_method_134_code 4 = .ok (.iload_n 2, 1) := by decide +kernel
theorem d_M_denied_5 : decode prog_14_method_134_code 5 = .ok (.aload_n 0, 1) := by decide +kernel
theorem d_M_denied_6 : decode prog_14_method_134_code 6 = .ok (.invokevirtual 137, 3) := by decide +kernel
theorem d_M_denied_9 : decode prog_14_method_134_code 9 = .ok (.if_icmp .ge 64, 3) := by decide +kernel
theorem d_M_denied_12 : decode prog_14_method_134_code 12 = .ok (.iload_n 1, 1) := by decide +kernel
theorem d_M_denied_13 : decode prog_14_method_134_code 13 = .ok (.aload_n 0, 1) := by decide +kernel
theorem d_M_denied_14 : decode prog_14_method_134_code 14 = .ok (.aload_n 0, 1) := by decide +kernel
theorem d_M_denied_15 : decode prog_14_method_134_code 15 = .ok (.getfield 24, 3) := by decide +kernel
theorem d_M_denied_18 : decode prog_14_method_134_code 18 = .ok (.bipush 7, 2) := by decide +kernel
theorem d_M_denied_20 : decode prog_14_method_134_code 20 = .ok (.iconst 4, 1) := by decide +kernel
theorem d_M_denied_21 : decode prog_14_method_134_code 21 = .ok (.iload_n 2, 1) := by decide +kernel
theorem d_M_denied_22 : decode prog_14_method_134_code 22 = .ok (.imul, 1) := by decide +kernel
theorem d_M_denied_23 : decode prog_14_method_134_code 23 = .ok (.iadd, 1) := by decide +kernel
theorem d_M_denied_24 : decode prog_14_method_134_code 24 = .ok (.iaload, 1) := by decide +kernel
theorem d_M_denied_25 : decode prog_14_method_134_code 25 = .ok (.aload_n 0, 1) := by decide +kernel
theorem d_M_denied_26 : decode prog_14_method_134_code 26 = .ok (.getfield 24, 3) := by decide +kernel
theorem d_M_denied_29 : decode prog_14_method_134_code 29 = .ok (.bipush 7, 2) := by decide +kernel
theorem d_M_denied_31 : decode prog_14_method_134_code 31 = .ok (.iconst 4, 1) := by decide +kernel
theorem d_M_denied_32 : decode prog_14_method_134_code 32 = .ok (.iload_n 2, 1) := by decide +kernel
theorem d_M_denied_33 : decode prog_14_method_134_code 33 = .ok (.imul, 1) := by decide +kernel
theorem d_M_denied_34 : decode prog_14_method_134_code 34 = .ok (.iadd, 1) := by decide +kernel
theorem d_M_denied_35 : decode prog_14_method_134_code 35 = .ok (.iconst 1, 1) := by decide +kernel
theorem d_M_denied_36 : decode prog_14_method_134_code 36 = .ok (.iadd, 1) := by decide +kernel
theorem d_M_denied_37 : decode prog_14_method_134_code 37 = .ok (.iaload, 1) := by decide +kernel
theorem d_M_denied_38 : decode prog_14_method_134_code 38 = .ok (.aload_n 0, 1) := by decide +kernel
theorem d_M_denied_39 : decode prog_14_method_134_code 39 = .ok (.getfield 24, 3) := by decide +kernel
theorem d_M_denied_42 : decode prog_14_method_134_code 42 = .ok (.bipush 7, 2) := by decide +kernel
theorem d_M_denied_44 : decode prog_14_method_134_code 44 = .ok (.iconst 4, 1) := by decide +kernel
theorem d_M_denied_45 : decode prog_14_method_134_code 45 = .ok (.iload_n 2, 1) := by decide +kernel
theorem d_M_denied_46 : decode prog_14_method_134_code 46 = .ok (.imul, 1) := by decide +kernel
theorem d_M_denied_47 : decode prog_14_method_134_code 47 = .ok (.iadd, 1) := by decide +kernel
theorem d_M_denied_48 : decode prog_14_method_134_code 48 = .ok (.iconst 2, 1) := by decide +kernel
theorem d_M_denied_49 : decode prog_14_method_134_code 49 = .ok (.iadd, 1) := by decide +kernel
theorem d_M_denied_50 : decode prog_14_method_134_code 50 = .ok (.iaload, 1) := by decide +kernel
theorem d_M_denied_51 : decode prog_14_method_134_code 51 = .ok (.ineg, 1) := by decide +kernel
theorem d_M_denied_52 : decode prog_14_method_134_code 52 = .ok (.invokevirtual 468, 3) := by decide +kernel
theorem d_M_denied_55 : decode prog_14_method_134_code 55 = .ok (.ifCond .eq 9, 3) := by decide +kernel
theorem d_M_denied_58 : decode prog_14_method_134_code 58 = .ok (.iconst 1, 1) := by decide +kernel
theorem d_M_denied_59 : decode prog_14_method_134_code 59 = .ok (.iload_n 2, 1) := by decide +kernel
theorem d_M_denied_60 : decode prog_14_method_134_code 60 = .ok (.ishl, 1) := by decide +kernel
theorem d_M_denied_61 : decode prog_14_method_134_code 61 = .ok (.goto 4, 3) := by decide +kernel
theorem d_M_denied_64 : decode prog_14_method_134_code 64 = .ok (.iconst 0, 1) := by decide +kernel
theorem d_M_denied_65 : decode prog_14_method_134_code 65 = .ok (.ior, 1) := by decide +kernel
theorem d_M_denied_66 : decode prog_14_method_134_code 66 = .ok (.istore_n 1, 1) := by decide +kernel
theorem d_M_denied_67 : decode prog_14_method_134_code 67 = .ok (.iinc 2 1, 3) := by decide +kernel
theorem d_M_denied_70 : decode prog_14_method_134_code 70 = .ok (.goto (-66), 3) := by decide +kernel
theorem d_M_denied_73 : decode prog_14_method_134_code 73 = .ok (.iload_n 1, 1) := by decide +kernel
theorem d_M_denied_74 : decode prog_14_method_134_code 74 = .ok (.ireturn, 1) := by decide +kernel
def w_M_denied {d : Nat} (hd : 2 ≤ d) := (show SS ("DebtDoorsModel", prog_14_method_134_code, 3) (some .int) d 0 0 0 0 _ from (sS (p1 := 2) (sIn 1 (xE (rI d_M_denied_0 rfl)) d_M_denied_1 rfl (by decide)) (sS (p1 := 73) (sS (p1 := 4) (sIn 2 (xE (rI d_M_denied_2 rfl)) d_M_denied_3 rfl (by decide)) (sLp (ps := 67) (tt := 12) (pn := 73) (p1 := 0) (p2 := 0) (xC (rNot (rJ2 (tgt := 73) j_ge (rIn 2 d_M_denied_4 rfl) (rV p_M_debts (Nat.le_trans (Nat.le_of_ble_eq_true rfl) hd) lv_M_137 (rAr rA0 (rAn 0 d_M_denied_5 rfl)) (by decide) d_M_denied_6) d_M_denied_9 (by decide)))) (sIn 1 (xx2 o_or (xE (rIn 1 d_M_denied_12 rfl)) (xT2 (xNot (xJ1 (tgt := 64) k_eq (xV lv_M_468 (xA (rAi (rAi (rAi (rAr rA0 (rAn 0 d_M_denied_13 rfl)) (rIa (rFr fl_M_24 nk_12_2 (rAn 0 d_M_denied_14 rfl) d_M_denied_15) (r2 o_add (rB d_M_denied_18 rfl) (r2 o_mul (rI d_M_denied_20 rfl) (rIn 2 d_M_denied_21 rfl) d_M_denied_22) d_M_denied_23) d_M_denied_24)) (rIa (rFr fl_M_24 nk_12_2 (rAn 0 d_M_denied_25 rfl) d_M_denied_26) (r2 o_add (r2 o_add (rB d_M_denied_29 rfl) (r2 o_mul (rI d_M_denied_31 rfl) (rIn 2 d_M_denied_32 rfl) d_M_denied_33) d_M_denied_34) (rI d_M_denied_35 rfl) d_M_denied_36) d_M_denied_37)) (rNg (rIa (rFr fl_M_24 nk_12_2 (rAn 0 d_M_denied_38 rfl) d_M_denied_39) (r2 o_add (r2 o_add (rB d_M_denied_42 rfl) (r2 o_mul (rI d_M_denied_44 rfl) (rIn 2 d_M_denied_45 rfl) d_M_denied_46) d_M_denied_47) (rI d_M_denied_48 rfl) d_M_denied_49) d_M_denied_50) d_M_denied_51))) (by decide) d_M_denied_52) d_M_denied_55 (by decide))) (xE (rGoE (p2 := 65) (r2 o_shl (rI d_M_denied_58 rfl) (rIn 2 d_M_denied_59 rfl) d_M_denied_60) d_M_denied_61 (by decide))) (xE (rI d_M_denied_64 rfl))) d_M_denied_65) d_M_denied_66 rfl (by decide)) (sGo (pn := 4) (sInc d_M_denied_67 (by decide)) d_M_denied_70 (by decide)))) (sRi (xE (rIn 1 d_M_denied_73 rfl)) d_M_denied_74 rfl))))
theorem LC_denied : LC y_D_denied y_M_denied [] := LC.tv (f := fun Z F A w V S => (bsN (deA Z F A w S) A.2.1.length : Int)) (fun μ Z F A w V S h hV hS => by
    have hw := h.2.2.2.2.2
    have h16 := h.2.1.2.1.1
    refine zCw.use (zSp.ss [vr 0, vx 0, vx 0, vx 0] rfl (w_D_denied (d := 100) (by decide)) rfl rfl ?_) (by decide) (fun q μ' e => e)
    (try simp only [zit_e, Bool.and_eq_true, Bool.or_eq_true, Bool.not_eq_true', Bool.and_eq_false_iff, Bool.or_eq_false_iff, Bool.not_eq_false', zbe, zdt, zdf, zb2_p, zbp_0, zbp_1, zbp_inj, zbp_01, Bool.true_eq_false, Bool.false_eq_true, true_and, and_true, Decidable.not_not, Classical.not_not, implies_true, List.nil_append, List.cons_append, List.append_assoc, Option.some.injEq, Sum.inl.injEq, zSw_c, zSw_n]); (try simp only [zit_e, Bool.and_eq_true, Bool.or_eq_true, Bool.not_eq_true', Bool.and_eq_false_iff, Bool.or_eq_false_iff, Bool.not_eq_false', zbe, zdt, zdf, zb2_p, zbp_0, zbp_1, zbp_inj, zbp_01, Bool.true_eq_false, Bool.false_eq_true, true_and, and_true, Decidable.not_not, Classical.not_not, implies_true, List.nil_append, List.cons_append, List.append_assoc, Option.some.injEq, Sum.inl.injEq, zSw_c, zSw_n, zc_0, zc_1, zc_2]); (try simp only [zi_cs, zi_c0, zii_cs, zii_c0, zl_cs, zl_c0, zll_cs, zll_c0, zr_cs, zr_c0, zrr_cs, zrr_c0, zxs_cs, zxs_c0, zxx_cs, zxx_c0, zfree_c0, zfree_c1, zfree_cs, zfree_cz, zlong_i, zlong_r, zlong_x, zset_0, zset_s, true_and, and_true, Option.some.injEq, Sum.inl.injEq, Sum.inr.injEq, zb2_p, zbp_0, zbp_1, zbp_inj, zbp_01, Nat.zero_add, Nat.reduceAdd, implies_true, List.nil_append, List.cons_append, List.append_assoc, Int.not_lt, Int.not_le, Decidable.not_not, Int.zero_add, Int.reduceLE, Int.reduceLT, Int.reduceEq, Int.reduceNe, Int.reduceAdd, Int.reduceSub, Int.reduceMul, Int.reduceNeg, Int.reduceToNat, Nat.reduceMul, Nat.reduceLT, Nat.reduceEqDiff, and_self, ite_true, ite_false, zx1, zx2, zRecv, List.length_cons, List.length_nil, ne_eq, not_true_eq_false, not_false_eq_true, true_or, or_true, or_false, false_or, and_false, false_and, zf01, zf10, reduceCtorEq, zSw_c, zSw_n, zm_r, zit_T, zit_F, false_implies, true_implies, zc_0, zc_1, zc_2])
    generalize hp : deA Z F A w S = p
    have hpd : ∀ d : Int, p d ↔ soA Z F A w S (dbt A d).1 (dbt A d).2.1 (-(dbt A d).2.2.1) := fun d => by rw [← hp]; exact Iff.rfl
    refine zLoop.up A.2.1.length (fun j ρ μ1 => ρ = [vr 0, vr 2, vi (bsN p j : Int), vi j] ∧ CF w μ μ1) ⟨rfl, CF.rf hw⟩ ?_
    rintro j ρ μ1 hj ⟨rfl, hF⟩
    have h1 := h.f hF
    have hd1 := h1.d
    have hS1 : VCx 20 9 1 μ1 S := hS.k (hF.1 1 (by decide)) (fun c p q => hF.1 c (by simp only [List.mem_cons, List.not_mem_nil, or_false]; omega))
    (try simp only [zit_e, Bool.and_eq_true, Bool.or_eq_true, Bool.not_eq_true', Bool.and_eq_false_iff, Bool.or_eq_false_iff, Bool.not_eq_false', zbe, zdt, zdf, zb2_p, zbp_0, zbp_1, zbp_inj, zbp_01, Bool.true_eq_false, Bool.false_eq_true, true_and, and_true, Decidable.not_not, Classical.not_not, implies_true, List.nil_append, List.cons_append, List.append_assoc, Option.some.injEq, Sum.inl.injEq, zSw_c, zSw_n]); (try simp only [zit_e, Bool.and_eq_true, Bool.or_eq_true, Bool.not_eq_true', Bool.and_eq_false_iff, Bool.or_eq_false_iff, Bool.not_eq_false', zbe, zdt, zdf, zb2_p, zbp_0, zbp_1, zbp_inj, zbp_01, Bool.true_eq_false, Bool.false_eq_true, true_and, and_true, Decidable.not_not, Classical.not_not, implies_true, List.nil_append, List.cons_append, List.append_assoc, Option.some.injEq, Sum.inl.injEq, zSw_c, zSw_n, zc_0, zc_1, zc_2]); (try simp only [zi_cs, zi_c0, zii_cs, zii_c0, zl_cs, zl_c0, zll_cs, zll_c0, zr_cs, zr_c0, zrr_cs, zrr_c0, zxs_cs, zxs_c0, zxx_cs, zxx_c0, zfree_c0, zfree_c1, zfree_cs, zfree_cz, zlong_i, zlong_r, zlong_x, zset_0, zset_s, true_and, and_true, Option.some.injEq, Sum.inl.injEq, Sum.inr.injEq, zb2_p, zbp_0, zbp_1, zbp_inj, zbp_01, Nat.zero_add, Nat.reduceAdd, implies_true, List.nil_append, List.cons_append, List.append_assoc, Int.not_lt, Int.not_le, Decidable.not_not, Int.zero_add, Int.reduceLE, Int.reduceLT, Int.reduceEq, Int.reduceNe, Int.reduceAdd, Int.reduceSub, Int.reduceMul, Int.reduceNeg, Int.reduceToNat, Nat.reduceMul, Nat.reduceLT, Nat.reduceEqDiff, and_self, ite_true, ite_false, zx1, zx2, zRecv, List.length_cons, List.length_nil, ne_eq, not_true_eq_false, not_false_eq_true, true_or, or_true, or_false, false_or, and_false, false_and, zf01, zf10, reduceCtorEq, zSw_c, zSw_n, zm_r, zit_T, zit_F, false_implies, true_implies, zc_0, zc_1, zc_2])
    rw [hd1.2.2.2.2]
    have hlt := bsN_lt (p := p) (j + 1)
    refine zif (fun c => ?_) (fun c => ?_)
    · obtain ⟨e1, e2⟩ := h1.e (k := j) (by omega) c
      have e4 : (μ1 4 j = (dbt A j).1 ∧ μ1 5 j = (dbt A j).2.1) ∧ μ1 6 j = (dbt A j).2.2.1 ∧ μ1 7 j = (dbt A j).2.2.2 := ⟨⟨congrArg (fun x => x.1) e1, congrArg (fun x => x.2.1) e1⟩, congrArg (fun x => x.2.2.1) e1, congrArg (fun x => x.2.2.2) e1⟩
      have hge := owL_ge h1.2.1.2.1.2 (dbt_m (A := A) (k := j) (by omega) c)
      obtain ⟨o1, o2, o3, o4, o5⟩ := e2
      have hp : 2 ^ (j + 1) ≤ 2 ^ 16 := Nat.pow_le_pow_right (by decide) (by omega)
      have hp9 : (2 : Nat) ^ 16 = 65536 := by decide
      rw [e4.1.1, e4.1.2, e4.2.1]
      refine ⟨?_, ?_⟩
      · ((repeat' apply And.intro) <;> (first | omega | (simp only [zI_e]; omega) | exact True.intro))
      refine zCw.use (q_D_scuffsAreSo (d := 7) (by decide) h1 hS1 (by omega)) (by omega) (fun q μ2 e => ?_)
      obtain ⟨rfl, e2⟩ := e
      refine ⟨_, rfl, ?_⟩
      refine zif (fun c2 => ?_) (fun c2 => ?_)
      all_goals rw [zbp_0] at c2
      · exact ⟨zI_s (by omega) (by omega), znx (P := fun j' => [vr 0, vr 2, vi (zor (bsN p j : Int) (zshl 1 (j : Int))), vi ((j : Int) + 1)] = [vr 0, vr 2, vi (bsN p j' : Int), vi j'] ∧ CF w μ μ2) (by omega) ⟨by rw [bsN_y (by omega) ((hpd j).mpr (Classical.not_not.mp c2))]; rfl, hF.tr e2⟩⟩
      · exact ⟨zI_s (by omega) (by omega), znx (P := fun j' => [vr 0, vr 2, vi (bsN p j : Int), vi ((j : Int) + 1)] = [vr 0, vr 2, vi (bsN p j' : Int), vi j'] ∧ CF w μ μ2) (by omega) ⟨by rw [bsN_n (fun z => c2 (fun y => y ((hpd j).mp z)))]; rfl, hF.tr e2⟩⟩
    · have e : j = A.2.1.length := by omega
      subst e
      exact ⟨rfl, hF.hm, hF.kc⟩) (fun μ Z F A w V S h hV hS => by
    have h16 := h.2.1.2.1.1
    refine zCw.use (zSp.ss [vr 355, vx 0, vx 0] rfl (w_M_denied (d := 100) (by decide)) rfl rfl ?_) (by decide) (fun q μ' e => e)
    (try simp only [zit_e, Bool.and_eq_true, Bool.or_eq_true, Bool.not_eq_true', Bool.and_eq_false_iff, Bool.or_eq_false_iff, Bool.not_eq_false', zbe, zdt, zdf, zb2_p, zbp_0, zbp_1, zbp_inj, zbp_01, Bool.true_eq_false, Bool.false_eq_true, true_and, and_true, Decidable.not_not, Classical.not_not, implies_true, List.nil_append, List.cons_append, List.append_assoc, Option.some.injEq, Sum.inl.injEq, zSw_c, zSw_n]); (try simp only [zit_e, Bool.and_eq_true, Bool.or_eq_true, Bool.not_eq_true', Bool.and_eq_false_iff, Bool.or_eq_false_iff, Bool.not_eq_false', zbe, zdt, zdf, zb2_p, zbp_0, zbp_1, zbp_inj, zbp_01, Bool.true_eq_false, Bool.false_eq_true, true_and, and_true, Decidable.not_not, Classical.not_not, implies_true, List.nil_append, List.cons_append, List.append_assoc, Option.some.injEq, Sum.inl.injEq, zSw_c, zSw_n, zc_355]); (try simp only [zi_cs, zi_c0, zii_cs, zii_c0, zl_cs, zl_c0, zll_cs, zll_c0, zr_cs, zr_c0, zrr_cs, zrr_c0, zxs_cs, zxs_c0, zxx_cs, zxx_c0, zfree_c0, zfree_c1, zfree_cs, zfree_cz, zlong_i, zlong_r, zlong_x, zset_0, zset_s, true_and, and_true, Option.some.injEq, Sum.inl.injEq, Sum.inr.injEq, zb2_p, zbp_0, zbp_1, zbp_inj, zbp_01, Nat.zero_add, Nat.reduceAdd, implies_true, List.nil_append, List.cons_append, List.append_assoc, Int.not_lt, Int.not_le, Decidable.not_not, Int.zero_add, Int.reduceLE, Int.reduceLT, Int.reduceEq, Int.reduceNe, Int.reduceAdd, Int.reduceSub, Int.reduceMul, Int.reduceNeg, Int.reduceToNat, Nat.reduceMul, Nat.reduceLT, Nat.reduceEqDiff, and_self, ite_true, ite_false, zx1, zx2, zRecv, List.length_cons, List.length_nil, ne_eq, not_true_eq_false, not_false_eq_true, true_or, or_true, or_false, false_or, and_false, false_and, zf01, zf10, reduceCtorEq, zSw_c, zSw_n, zm_r, zit_T, zit_F, false_implies, true_implies, zc_355])
    generalize hp : deA Z F A w S = p
    have hpd : ∀ d : Int, p d ↔ soA Z F A w S (dbt A d).1 (dbt A d).2.1 (-(dbt A d).2.2.1) := fun d => by rw [← hp]; exact Iff.rfl
    refine zLoop.up A.2.1.length (fun j ρ μ1 => ρ = [vr 355, vi (bsN p j : Int), vi j] ∧ MF μ μ1) ⟨rfl, MF.rf⟩ ?_
    rintro j ρ μ1 hj ⟨rfl, hF⟩
    have h1 := h.f hF
    have hd1 := h1.d
    have hS1 : VMx 119 154 1 μ1 S := hS.k (hF.2 357 (by decide))
    (try simp only [zit_e, Bool.and_eq_true, Bool.or_eq_true, Bool.not_eq_true', Bool.and_eq_false_iff, Bool.or_eq_false_iff, Bool.not_eq_false', zbe, zdt, zdf, zb2_p, zbp_0, zbp_1, zbp_inj, zbp_01, Bool.true_eq_false, Bool.false_eq_true, true_and, and_true, Decidable.not_not, Classical.not_not, implies_true, List.nil_append, List.cons_append, List.append_assoc, Option.some.injEq, Sum.inl.injEq, zSw_c, zSw_n]); (try simp only [zit_e, Bool.and_eq_true, Bool.or_eq_true, Bool.not_eq_true', Bool.and_eq_false_iff, Bool.or_eq_false_iff, Bool.not_eq_false', zbe, zdt, zdf, zb2_p, zbp_0, zbp_1, zbp_inj, zbp_01, Bool.true_eq_false, Bool.false_eq_true, true_and, and_true, Decidable.not_not, Classical.not_not, implies_true, List.nil_append, List.cons_append, List.append_assoc, Option.some.injEq, Sum.inl.injEq, zSw_c, zSw_n, zc_355, f_M_debts, g_M_debts]); (try simp only [zi_cs, zi_c0, zii_cs, zii_c0, zl_cs, zl_c0, zll_cs, zll_c0, zr_cs, zr_c0, zrr_cs, zrr_c0, zxs_cs, zxs_c0, zxx_cs, zxx_c0, zfree_c0, zfree_c1, zfree_cs, zfree_cz, zlong_i, zlong_r, zlong_x, zset_0, zset_s, true_and, and_true, Option.some.injEq, Sum.inl.injEq, Sum.inr.injEq, zb2_p, zbp_0, zbp_1, zbp_inj, zbp_01, Nat.zero_add, Nat.reduceAdd, implies_true, List.nil_append, List.cons_append, List.append_assoc, Int.not_lt, Int.not_le, Decidable.not_not, Int.zero_add, Int.reduceLE, Int.reduceLT, Int.reduceEq, Int.reduceNe, Int.reduceAdd, Int.reduceSub, Int.reduceMul, Int.reduceNeg, Int.reduceToNat, Nat.reduceMul, Nat.reduceLT, Nat.reduceEqDiff, and_self, ite_true, ite_false, zx1, zx2, zRecv, List.length_cons, List.length_nil, ne_eq, not_true_eq_false, not_false_eq_true, true_or, or_true, or_false, false_or, and_false, false_and, zf01, zf10, reduceCtorEq, zSw_c, zSw_n, zm_r, zit_T, zit_F, false_implies, true_implies, zc_355, f_M_debts, g_M_debts])
    rw [hd1.2.2.2.2]
    have hlt := bsN_lt (p := p) (j + 1)
    have hlt0 := bsN_lt (p := p) j
    refine zif (fun c => ?_) (fun c => ?_)
    · obtain ⟨e1, e2⟩ := h1.e (k := j) (by omega) c
      have e4 : (μ1 357 (7 + 4 * (j : Int)) = (dbt A j).1 ∧ μ1 357 (7 + 4 * (j : Int) + 1) = (dbt A j).2.1) ∧ μ1 357 (7 + 4 * (j : Int) + 2) = (dbt A j).2.2.1 ∧ μ1 357 (7 + 4 * (j : Int) + 3) = (dbt A j).2.2.2 := ⟨⟨congrArg (fun x => x.1) e1, congrArg (fun x => x.2.1) e1⟩, congrArg (fun x => x.2.2.1) e1, congrArg (fun x => x.2.2.2) e1⟩
      have hge := owL_ge h1.2.1.2.1.2 (dbt_m (A := A) (k := j) (by omega) c)
      obtain ⟨o1, o2, o3, o4, o5⟩ := e2
      have hp : 2 ^ (j + 1) ≤ 2 ^ 16 := Nat.pow_le_pow_right (by decide) (by omega)
      have hp0 : 2 ^ j ≤ 2 ^ 16 := Nat.pow_le_pow_right (by decide) (by omega)
      have hp9 : (2 : Nat) ^ 16 = 65536 := by decide
      rw [e4.1.1, e4.1.2, e4.2.1]
      refine ⟨?_, ?_⟩
      · ((repeat' apply And.intro) <;> (first | omega | (simp only [zI_e]; omega) | exact True.intro))
      refine zCw.use (q_M_areSo (d := 49) (by decide) h1 hS1 (by omega)) (by omega) (fun q μ2 e => ?_)
      obtain ⟨rfl, e2⟩ := e
      refine ⟨_, rfl, ?_⟩
      refine zif (fun c2 => ?_) (fun c2 => ?_)
      all_goals rw [zbp_0] at c2
      · exact ⟨zI_s (by omega) (by omega), znx (P := fun j' => [vr 355, vi (zor (bsN p j : Int) (zshl 1 (j : Int))), vi ((j : Int) + 1)] = [vr 355, vi (bsN p j' : Int), vi j'] ∧ MF μ μ2) (by omega) ⟨by rw [bsN_y (by omega) ((hpd j).mpr (Classical.not_not.mp c2))]; rfl, hF.tr e2⟩⟩
      · exact ⟨zI_s (by omega) (by omega), znx (P := fun j' => [vr 355, vi (zor (bsN p j : Int) 0), vi ((j : Int) + 1)] = [vr 355, vi (bsN p j' : Int), vi j'] ∧ MF μ μ2) (by omega) ⟨by rw [zor_0 (by omega), bsN_n (fun z => c2 (fun y => y ((hpd j).mp z)))]; rfl, hF.tr e2⟩⟩
    · have e : j = A.2.1.length := by omega
      subst e
      exact ⟨rfl, hF.hc, hF.km⟩)

