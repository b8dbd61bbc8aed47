/-! the class tells -/
theorem pCls_C {o : Bool} {c v : Nat → Int} {fin : Nat → Bool} {κ : Int → Int} (hC : ∀ {t l w t1 l1 : Nat} {cl : Cls} {cd : List Int}, pcO o c v t l w = (t1, some (l1, cl, cd)) → Seg κ w cd → w + cd.length ≤ 385 → ClC o κ cl) : ∀ (f t l w t1 : Nat) (cs : List Cls) (cc : List Int), pCls c fin (pcO o c v) f t l w = (t1, some (cs, cc)) → Seg κ w cc → w + cc.length ≤ 385 → ∀ cl, cl ∈ cs → ClC o κ cl
  | 0, t, l, w, t1, cs, cc, e, _, _, cl, _ => by
    rw [pCls] at e
    cases e
  | f + 1, t, l, w, t1, cs, cc, e, hs, hw, cl, hx => by
    rcases e1 : pcO o c v t l w with ⟨t2, _ | ⟨l2, c2, d2⟩⟩
    · rw [pCls_n e1] at e
      cases e
    by_cases h9 : c t2 = 159
    · rw [pCls_s e1 h9] at e
      rcases e3 : pCls c fin (pcO o c v) f (t2 + 1) l2 (w + d2.length) with ⟨t3, _ | ⟨r3, c3⟩⟩
      · rw [e3] at e
        cases e
      rw [e3] at e
      cases e
      rw [Seg_app] at hs
      rw [List.length_append] at hw
      rw [List.mem_append, List.mem_singleton] at hx
      rcases hx with hx | hx
      · rw [hx]
        exact hC e1 hs.1 (by omega)
      · exact pCls_C hC f _ _ _ _ _ _ e3 hs.2 (by omega) cl hx
    · rw [pCls_e e1 h9] at e
      split at e
      · cases e
        rw [List.mem_singleton] at hx
        rw [hx]
        exact hC e1 hs hw
      · cases e
/-- clauses as the class keeps them -/
def LwC (o : Bool) (κ : Int → Int) (cls : List Cls) : Prop := κ 0 = (cls.length : Int) ∧ cls.length ≤ 12 ∧ ∀ (j : Nat) (cl : Cls), cls[j]? = some cl → Hd o κ j cl ∧ ClC o κ cl
theorem ls_D_437 : zLs "DebtDoors" 437 y_D_columnPlace 2 := Or.inl ⟨(zTb_in 672 (by decide +kernel) (by decide +kernel)), m_D_columnPlace⟩
def y_D_column : zMt := (⟨"DebtDoors", "column", "([III)I"⟩, prog_1_method_71_code, 4, some .int)
theorem d_D_column_0 : decode prog_1_method_71_code 0 = .ok (.iload_n 1, 1) := by decide +kernel
theorem d_D_column_1 : decode prog_1_method_71_code 1 = .ok (.iload_n 2, 1) := by decide +kernel
theorem d_D_column_2 : decode prog_1_method_71_code 2 = .ok (.invokestatic 437, 3) := by decide +kernel
theorem d_D_column_5 : decode prog_1_method_71_code 5 = .ok (.istore_n 3, 1) := by decide +kernel
theorem d_D_column_6 : decode prog_1_method_71_code 6 = .ok (.iload_n 3, 1) := by decide +kernel
theorem d_D_column_7 : decode prog_1_method_71_code 7 = .ok (.iconst 0, 1) := by decide +kernel
theorem d_D_column_8 : decode prog_1_method_71_code 8 = .ok (.aload_n 0, 1) := by decide +kernel
theorem d_D_column_9 : decode prog_1_method_71_code 9 = .ok (.arraylength, 1) := by decide +kernel
theorem d_D_column_10 : decode prog_1_method_71_code 10 = .ok (.iconst 1, 1) := by decide +kernel
theorem d_D_column_11 : decode prog_1_method_71_code 11 = .ok (.isub, 1) := by decide +kernel
theorem d_D_column_12 : decode prog_1_method_71_code 12 = .ok (.invokestatic 104, 3) := by decide +kernel
theorem d_D_column_15 : decode prog_1_method_71_code 15 = .ok (.ifCond .eq 9, 3) := by decide +kernel
theorem d_D_column_18 : decode prog_1_method_71_code 18 = .ok (.aload_n 0, 1) := by decide +kernel
theorem d_D_column_19 : decode prog_1_method_71_code 19 = .ok (.iload_n 3, 1) := by decide +kernel
theorem d_D_column_20 : decode prog_1_method_71_code 20 = .ok (.iaload, 1) := by decide +kernel
theorem d_D_column_21 : decode prog_1_method_71_code 21 = .ok (.goto 4, 3) := by decide +kernel
theorem d_D_column_24 : decode prog_1_method_71_code 24 = .ok (.iconst 0, 1) := by decide +kernel
theorem d_D_column_25 : decode prog_1_method_71_code 25 = .ok (.ireturn, 1) := by decide +kernel
def w_D_column {d : Nat} (hd : 2 ≤ d) := (show SS ("DebtDoors", prog_1_method_71_code, 4) (some .int) d 0 0 0 0 _ from (sS (p1 := 6) (sIn 3 (xE (rS p_D_columnPlace (Nat.le_trans (Nat.le_of_ble_eq_true rfl) hd) ls_D_437 (rAi (rAi rA0 (rIn 1 d_D_column_0 rfl)) (rIn 2 d_D_column_1 rfl)) (by decide) d_D_column_2)) d_D_column_5 rfl (by decide)) (sRi (xE (rT2 (rNot (rJ1 (tgt := 24) k_eq (rS p_D_between (Nat.le_trans (Nat.le_of_ble_eq_true rfl) hd) ls_D_104 (rAi (rAi (rAi rA0 (rIn 3 d_D_column_6 rfl)) (rI d_D_column_7 rfl)) (r2 o_sub (rLen (rAn 0 d_D_column_8 rfl) d_D_column_9) (rI d_D_column_10 rfl) d_D_column_11)) (by decide) d_D_column_12) d_D_column_15 (by decide))) (rGoE (p2 := 25) (rIa (rAn 0 d_D_column_18 rfl) (rIn 3 d_D_column_19 rfl) d_D_column_20) d_D_column_21 (by decide)) (rI d_D_column_24 rfl))) d_D_column_25 rfl)))
noncomputable def f_D_column : List zV → zMem → Int
  | [.inr (.inr (.inl R0)), .inl a, .inl b], μ => μ R0 (1 + a * 7 + b)
  | _, _ => 0
def g_D_column : List zV → zMem → Prop
  | [.inr (.inr (.inl R0)), .inl a, .inl b], μ => ((zkd R0 = 0 ∧ zln R0 = 385) ∧ 0 ≤ a ∧ a ≤ 11 ∧ 0 ≤ b ∧ b ≤ 6)
  | _, _ => False
theorem p_D_column : zPu y_D_column 2 f_D_column g_D_column := by
  intro as μ h
  unfold g_D_column at h
  split at h
  · next R0 a b =>
    refine zSp.ss [vr R0, vi a, vi b, vx 0] rfl (w_D_column (Nat.le_refl _)) rfl rfl ?_
    (try simp only [zit_e, Bool.and_eq_true, Bool.or_eq_true, Bool.not_eq_true', Bool.and_eq_false_iff, Bool.or_eq_false_iff, Bool.not_eq_false', zbe, zdt, zdf, zb2_p, zbp_0, zbp_1, zbp_inj, zbp_01, Bool.true_eq_false, Bool.false_eq_true, true_and, and_true, Decidable.not_not, Classical.not_not, implies_true, List.nil_append, List.cons_append, List.append_assoc, Option.some.injEq, Sum.inl.injEq, zSw_c, zSw_n]); (try simp only [zit_e, Bool.and_eq_true, Bool.or_eq_true, Bool.not_eq_true', Bool.and_eq_false_iff, Bool.or_eq_false_iff, Bool.not_eq_false', zbe, zdt, zdf, zb2_p, zbp_0, zbp_1, zbp_inj, zbp_01, Bool.true_eq_false, Bool.false_eq_true, true_and, and_true, Decidable.not_not, Classical.not_not, implies_true, List.nil_append, List.cons_append, List.append_assoc, Option.some.injEq, Sum.inl.injEq, zSw_c, zSw_n, f_D_column, f_D_columnPlace, g_D_columnPlace, f_D_between, g_D_between]); (try simp only [zi_cs, zi_c0, zii_cs, zii_c0, zl_cs, zl_c0, zll_cs, zll_c0, zr_cs, zr_c0, zrr_cs, zrr_c0, zxs_cs, zxs_c0, zxx_cs, zxx_c0, zfree_c0, zfree_c1, zfree_cs, zfree_cz, zlong_i, zlong_r, zlong_x, zset_0, zset_s, true_and, and_true, Option.some.injEq, Sum.inl.injEq, Sum.inr.injEq, zb2_p, zbp_0, zbp_1, zbp_inj, zbp_01, Nat.zero_add, Nat.reduceAdd, implies_true, List.nil_append, List.cons_append, List.append_assoc, Int.not_lt, Int.not_le, Decidable.not_not, Int.zero_add, Int.reduceLE, Int.reduceLT, Int.reduceEq, Int.reduceNe, Int.reduceAdd, Int.reduceSub, Int.reduceMul, Int.reduceNeg, Int.reduceToNat, Nat.reduceMul, Nat.reduceLT, Nat.reduceEqDiff, and_self, ite_true, ite_false, zx1, zx2, zRecv, List.length_cons, List.length_nil, ne_eq, not_true_eq_false, not_false_eq_true, true_or, or_true, or_false, false_or, and_false, false_and, zf01, zf10, reduceCtorEq, zSw_c, zSw_n, zm_r, zit_T, zit_F, false_implies, true_implies, f_D_column, f_D_columnPlace, g_D_columnPlace, f_D_between, g_D_between])
    rw [h.1.1, h.1.2]
    exact ⟨by omega, ⟨⟨by decide, by ((try simp only [zI_e]); (first | done | omega | skip))⟩, fun _ => ⟨rfl, by omega⟩⟩, zit_t (by omega)⟩
  · exact h.elim
theorem hlT_n {m : Mn} {W : Int → Int} (e : m W = none) : hlT (some m) W = false := by
  unfold hlT
  simp only [e]
theorem hlT_y {m : Mn} {W : Int → Int} {y : Int} (e : m W = some y) : hlT (some m) W = decide (y ≠ 0) := by
  unfold hlT
  simp only [e]
def lsV (kind : Int) (E : Option Int) : Int := match E with
  | none => -2000000000
  | some s => if kind = 3 then 0 else s
theorem lstT_cat {W : Int → Int} {kind : Int} : ∀ a b : List Cls, lstT W kind (a ++ b) = oEl (lstT W kind b) (lstT W kind a)
  | [], b => by
    show lstT W kind b = oEl (lstT W kind b) none
    rw [oEl_n]
  | x :: a, b => by
    show oEl (lstT W kind (a ++ b)) (tlC W kind x) = oEl (lstT W kind b) (oEl (lstT W kind a) (tlC W kind x))
    rw [lstT_cat a b]
    cases lstT W kind b <;> rfl
theorem m_D_column : Cond.static y_D_column.1 ∈ zTb ∧ Cond.initialized y_D_column.1.cls ∈ zTb ∧ Cond.code y_D_column.1 y_D_column.2.1 y_D_column.2.2.1 y_D_column.2.2.2 ∈ zTb ∧ (y_D_column.1.cls ≠ "java/lang/invoke/MethodHandle" ∧ y_D_column.1.cls ≠ "java/lang/invoke/VarHandle" ∧ (parseMethodDescriptor y_D_column.1.desc).map (fun d => d.parameters.length) = some 3) ∧ y_D_column.2.2.1 ≤ 20 :=
  ⟨(zTb_in 670 (by decide +kernel) (by decide +kernel)), (zTb_in 139 (by decide +kernel) (by decide +kernel)), (zTb_in 671 (by decide +kernel) (by decide +kernel)), by decide +kernel, by decide +kernel⟩
theorem ls_Ru_88 : zLs "DebtDoors$Rules" 88 y_D_column 3 := Or.inr ⟨⟨"DebtDoors", List.mem_of_getElem? (i := 669) (by decide +kernel)⟩, m_D_column⟩
theorem m_Ma_value : Cond.instanceMethod y_Ma_value.1 ∈ zTb ∧ Cond.selects y_Ma_value.1.cls y_Ma_value.1 y_Ma_value.1 ∈ zTb ∧ Cond.initialized y_Ma_value.1.cls ∈ zTb ∧ Cond.code y_Ma_value.1 y_Ma_value.2.1 y_Ma_value.2.2.1 y_Ma_value.2.2.2 ∈ zTb ∧ (y_Ma_value.1.cls ≠ "java/lang/invoke/MethodHandle" ∧ y_Ma_value.1.cls ≠ "java/lang/invoke/VarHandle" ∧ (parseMethodDescriptor y_Ma_value.1.desc).map (fun d => d.parameters.length) = some 3) ∧ y_Ma_value.2.2.1 ≤ 20 :=
  ⟨(zTb_in 676 (by decide +kernel) (by decide +kernel)), (zTb_in 677 (by decide +kernel) (by decide +kernel)), (zTb_in 145 (by decide +kernel) (by decide +kernel)), (zTb_in 678 (by decide +kernel) (by decide +kernel)), by decide +kernel, by decide +kernel⟩
theorem lv_Ru_92 : zLv "DebtDoors$Rules" 92 y_Ma_value 3 3 := ⟨⟨(zTb_in 675 (by decide +kernel) (by decide +kernel)), m_Ma_value.1, m_Ma_value.2.1, m_Ma_value.2.2⟩, _, rfl, rfl⟩
theorem nk_7_0 : zNk 7 0 = none := rfl
theorem fl_Ru_95 : zFl "DebtDoors$Rules" 95 3 2 := ⟨_, rfl, by decide, (zTb_in 378 (by decide +kernel) (by decide +kernel)), rfl⟩
theorem kc_Ru_54 : Cond.constant "DebtDoors$Rules" 54 (Int32.ofInt (-2000000000)) ∈ zTb := (zTb_in 692 (by decide +kernel) (by decide +kernel))
def y_Ru_lastTold : zMt := (⟨"DebtDoors$Rules", "lastTold", "([II)I"⟩, prog_9_method_6_code, 7, some .int)
theorem d_Ru_lastTold_0 : decode prog_9_method_6_code 0 = .ok (.aload_n 1, 1) := by decide +kernel
theorem d_Ru_lastTold_1 : decode prog_9_method_6_code 1 = .ok (.iconst 0, 1) := by decide +kernel
theorem d_Ru_lastTold_2 : decode prog_9_method_6_code 2 = .ok (.iaload, 1) := by decide +kernel
theorem d_Ru_lastTold_3 : decode prog_9_method_6_code 3 = .ok (.iconst 1, 1) := by decide +kernel
theorem d_Ru_lastTold_4 : decode prog_9_method_6_code 4 = .ok (.isub, 1) := by decide +kernel
theorem d_Ru_lastTold_5 : decode prog_9_method_6_code 5 = .ok (.istore_n 3, 1) := by decide +kernel
theorem d_Ru_lastTold_6 : decode prog_9_method_6_code 6 = .ok (.iload_n 3, 1) := by decide +kernel
theorem d_Ru_lastTold_7 : decode prog_9_method_6_code 7 = .ok (.ifCond .lt 116, 3) := by decide +kernel
theorem d_Ru_lastTold_10 : decode prog_9_method_6_code 10 = .ok (.aload_n 1, 1) := by decide +kernel
theorem d_Ru_lastTold_11 : decode prog_9_method_6_code 11 = .ok (.iload_n 3, 1) := by decide +kernel
theorem d_Ru_lastTold_12 : decode prog_9_method_6_code 12 = .ok (.iconst 0, 1) := by decide +kernel
theorem d_Ru_lastTold_13 : decode prog_9_method_6_code 13 = .ok (.invokestatic 88, 3) := by decide +kernel
theorem d_Ru_lastTold_16 : decode prog_9_method_6_code 16 = .ok (.iload_n 2, 1) := by decide +kernel
theorem d_Ru_lastTold_17 : decode prog_9_method_6_code 17 = .ok (.if_icmp .eq 6, 3) := by decide +kernel
theorem d_Ru_lastTold_20 : decode prog_9_method_6_code 20 = .ok (.goto 97, 3) := by decide +kernel
theorem d_Ru_lastTold_23 : decode prog_9_method_6_code 23 = .ok (.aload_n 1, 1) := by decide +kernel
theorem d_Ru_lastTold_24 : decode prog_9_method_6_code 24 = .ok (.iload_n 3, 1) := by decide +kernel
theorem d_Ru_lastTold_25 : decode prog_9_method_6_code 25 = .ok (.iconst 5, 1) := by decide +kernel
theorem d_Ru_lastTold_26 : decode prog_9_method_6_code 26 = .ok (.invokestatic 88, 3) := by decide +kernel
theorem d_Ru_lastTold_29 : decode prog_9_method_6_code 29 = .ok (.istore 4, 2) := by decide +kernel
theorem d_Ru_lastTold_31 : decode prog_9_method_6_code 31 = .ok (.aload_n 1, 1) := by decide +kernel
theorem d_Ru_lastTold_32 : decode prog_9_method_6_code 32 = .ok (.iload_n 3, 1) := by decide +kernel
theorem d_Ru_lastTold_33 : decode prog_9_method_6_code 33 = .ok (.bipush 6, 2) := by decide +kernel
theorem d_Ru_lastTold_35 : decode prog_9_method_6_code 35 = .ok (.invokestatic 88, 3) := by decide +kernel
theorem d_Ru_lastTold_38 : decode prog_9_method_6_code 38 = .ok (.istore 5, 2) := by decide +kernel
theorem d_Ru_lastTold_40 : decode prog_9_method_6_code 40 = .ok (.iload 4, 2) := by decide +kernel
theorem d_Ru_lastTold_42 : decode prog_9_method_6_code 42 = .ok (.iload 5, 2) := by decide +kernel
theorem d_Ru_lastTold_44 : decode prog_9_method_6_code 44 = .ok (.if_icmp .ge 31, 3) := by decide +kernel
theorem d_Ru_lastTold_47 : decode prog_9_method_6_code 47 = .ok (.aload_n 0, 1) := by decide +kernel
theorem d_Ru_lastTold_48 : decode prog_9_method_6_code 48 = .ok (.getfield 12, 3) := by decide +kernel
theorem d_Ru_lastTold_51 : decode prog_9_method_6_code 51 = .ok (.aload_n 1, 1) := by decide +kernel
theorem d_Ru_lastTold_52 : decode prog_9_method_6_code 52 = .ok (.iload 4, 2) := by decide +kernel
theorem d_Ru_lastTold_54 : decode prog_9_method_6_code 54 = .ok (.iload 5, 2) := by decide +kernel
theorem d_Ru_lastTold_56 : decode prog_9_method_6_code 56 = .ok (.invokevirtual 92, 3) := by decide +kernel
theorem d_Ru_lastTold_59 : decode prog_9_method_6_code 59 = .ok (.ifCond .eq 58, 3) := by decide +kernel
theorem d_Ru_lastTold_62 : decode prog_9_method_6_code 62 = .ok (.aload_n 0, 1) := by decide +kernel
theorem d_Ru_lastTold_63 : decode prog_9_method_6_code 63 = .ok (.getfield 12, 3) := by decide +kernel
theorem d_Ru_lastTold_66 : decode prog_9_method_6_code 66 = .ok (.getfield 95, 3) := by decide +kernel
theorem d_Ru_lastTold_69 : decode prog_9_method_6_code 69 = .ok (.ifCond .eq 6, 3) := by decide +kernel
theorem d_Ru_lastTold_72 : decode prog_9_method_6_code 72 = .ok (.goto 45, 3) := by decide +kernel
theorem d_Ru_lastTold_75 : decode prog_9_method_6_code 75 = .ok (.iload_n 2, 1) := by decide +kernel
theorem d_Ru_lastTold_76 : decode prog_9_method_6_code 76 = .ok (.iconst 3, 1) := by decide +kernel
theorem d_Ru_lastTold_77 : decode prog_9_method_6_code 77 = .ok (.if_icmp .ne 5, 3) := by decide +kernel
theorem d_Ru_lastTold_80 : decode prog_9_method_6_code 80 = .ok (.iconst 0, 1) := by decide +kernel
theorem d_Ru_lastTold_81 : decode prog_9_method_6_code 81 = .ok (.ireturn, 1) := by decide +kernel
theorem d_Ru_lastTold_82 : decode prog_9_method_6_code 82 = .ok (.aload_n 0, 1) := by decide +kernel
theorem d_Ru_lastTold_83 : decode prog_9_method_6_code 83 = .ok (.getfield 12, 3) := by decide +kernel
theorem d_Ru_lastTold_86 : decode prog_9_method_6_code 86 = .ok (.aload_n 1, 1) := by decide +kernel
theorem d_Ru_lastTold_87 : decode prog_9_method_6_code 87 = .ok (.aload_n 1, 1) := by decide +kernel
theorem d_Ru_lastTold_88 : decode prog_9_method_6_code 88 = .ok (.iload_n 3, 1) := by decide +kernel
theorem d_Ru_lastTold_89 : decode prog_9_method_6_code 89 = .ok (.iconst 2, 1) := by decide +kernel
theorem d_Ru_lastTold_90 : decode prog_9_method_6_code 90 = .ok (.invokestatic 88, 3) := by decide +kernel
theorem d_Ru_lastTold_93 : decode prog_9_method_6_code 93 = .ok (.aload_n 1, 1) := by decide +kernel
theorem d_Ru_lastTold_94 : decode prog_9_method_6_code 94 = .ok (.iload_n 3, 1) := by decide +kernel
theorem d_Ru_lastTold_95 : decode prog_9_method_6_code 95 = .ok (.iconst 3, 1) := by decide +kernel
theorem d_Ru_lastTold_96 : decode prog_9_method_6_code 96 = .ok (.invokestatic 88, 3) := by decide +kernel
theorem d_Ru_lastTold_99 : decode prog_9_method_6_code 99 = .ok (.invokevirtual 92, 3) := by decide +kernel
theorem d_Ru_lastTold_102 : decode prog_9_method_6_code 102 = .ok (.istore 6, 2) := by decide +kernel
theorem d_Ru_lastTold_104 : decode prog_9_method_6_code 104 = .ok (.aload_n 0, 1) := by decide +kernel
theorem d_Ru_lastTold_105 : decode prog_9_method_6_code 105 = .ok (.getfield 12, 3) := by decide +kernel
theorem d_Ru_lastTold_108 : decode prog_9_method_6_code 108 = .ok (.getfield 95, 3) := by decide +kernel
theorem d_Ru_lastTold_111 : decode prog_9_method_6_code 111 = .ok (.ifCond .ne 6, 3) := by decide +kernel
theorem d_Ru_lastTold_114 : decode prog_9_method_6_code 114 = .ok (.iload 6, 2) := by decide +kernel
theorem d_Ru_lastTold_116 : decode prog_9_method_6_code 116 = .ok (.ireturn, 1) := by decide +kernel
theorem d_Ru_lastTold_117 : decode prog_9_method_6_code 117 = .ok (.iinc 3 (-1), 3) := by decide +kernel
theorem d_Ru_lastTold_120 : decode prog_9_method_6_code 120 = .ok (.goto (-114), 3) := by decide +kernel
theorem d_Ru_lastTold_123 : decode prog_9_method_6_code 123 = .ok (.ldc 54, 2) := by decide +kernel
theorem d_Ru_lastTold_125 : decode prog_9_method_6_code 125 = .ok (.ireturn, 1) := by decide +kernel
def w_Ru_lastTold {d : Nat} (hd : 3 ≤ d) := (show SS ("DebtDoors$Rules", prog_9_method_6_code, 7) (some .int) d 0 0 0 0 _ from (sS (p1 := 123) (sS (p1 := 6) (sIn 3 (xE (r2 o_sub (rIa (rAn 1 d_Ru_lastTold_0 rfl) (rI d_Ru_lastTold_1 rfl) d_Ru_lastTold_2) (rI d_Ru_lastTold_3 rfl) d_Ru_lastTold_4)) d_Ru_lastTold_5 rfl (by decide)) (sLp (ps := 117) (tt := 10) (pn := 123) (p1 := 0) (p2 := 0) (xC (rNot (rJ1 (tgt := 123) k_lt (rIn 3 d_Ru_lastTold_6 rfl) d_Ru_lastTold_7 (by decide)))) (sS (p1 := 23) (sIf (pn := 23) (tt := 117) (xC (rGt (p2 := 117) (rNot (rJ2 (tgt := 23) j_eq (rS p_D_column (Nat.le_trans (Nat.le_of_ble_eq_true rfl) hd) ls_Ru_88 (rAi (rAi (rAr rA0 (rAn 1 d_Ru_lastTold_10 rfl)) (rIn 3 d_Ru_lastTold_11 rfl)) (rI d_Ru_lastTold_12 rfl)) (by decide) d_Ru_lastTold_13) (rIn 2 d_Ru_lastTold_16 rfl) d_Ru_lastTold_17 (by decide))) d_Ru_lastTold_20 (by decide))) sCo0) (sS (p1 := 31) (sI (xE (rS p_D_column (Nat.le_trans (Nat.le_of_ble_eq_true rfl) hd) ls_Ru_88 (rAi (rAi (rAr rA0 (rAn 1 d_Ru_lastTold_23 rfl)) (rIn 3 d_Ru_lastTold_24 rfl)) (rI d_Ru_lastTold_25 rfl)) (by decide) d_Ru_lastTold_26)) d_Ru_lastTold_29 (by decide)) (sS (p1 := 40) (sI (xE (rS p_D_column (Nat.le_trans (Nat.le_of_ble_eq_true rfl) hd) ls_Ru_88 (rAi (rAi (rAr rA0 (rAn 1 d_Ru_lastTold_31 rfl)) (rIn 3 d_Ru_lastTold_32 rfl)) (rB d_Ru_lastTold_33 rfl)) (by decide) d_Ru_lastTold_35)) d_Ru_lastTold_38 (by decide)) (sS (p1 := 75) (sIf (pn := 75) (tt := 117) (xAnd (mm := 47) (xC (rNot (rJ2 (tgt := 75) j_ge (rIl d_Ru_lastTold_40) (rIl d_Ru_lastTold_42) d_Ru_lastTold_44 (by decide)))) (xOr (mm := 62) (xJ1 (tgt := 117) k_eq (xV lv_Ru_92 (xA (rAi (rAi (rAr (rAr rA0 (rFr fl_Ru_12 nk_7_0 (rAn 0 d_Ru_lastTold_47 rfl) d_Ru_lastTold_48)) (rAn 1 d_Ru_lastTold_51 rfl)) (rIl d_Ru_lastTold_52)) (rIl d_Ru_lastTold_54))) (by decide) d_Ru_lastTold_56) d_Ru_lastTold_59 (by decide)) (xC (rGt (p2 := 117) (rNot (rJ1 (tgt := 75) k_eq (rF 2 fl_Ru_95 nk_3_2 (rFr fl_Ru_12 nk_7_0 (rAn 0 d_Ru_lastTold_62 rfl) d_Ru_lastTold_63) d_Ru_lastTold_66 rfl) d_Ru_lastTold_69 (by decide))) d_Ru_lastTold_72 (by decide))))) sCo0) (sS (p1 := 82) (sIf (pn := 82) (tt := 80) (xC (rNot (rJ2 (tgt := 82) j_ne (rIn 2 d_Ru_lastTold_75 rfl) (rI d_Ru_lastTold_76 rfl) d_Ru_lastTold_77 (by decide)))) (sRi (xE (rI d_Ru_lastTold_80 rfl)) d_Ru_lastTold_81 rfl)) (sS (p1 := 104) (sI (xV lv_Ru_92 (xA (rAi (rAi (rAr (rAr rA0 (rFr fl_Ru_12 nk_7_0 (rAn 0 d_Ru_lastTold_82 rfl) d_Ru_lastTold_83)) (rAn 1 d_Ru_lastTold_86 rfl)) (rS p_D_column (Nat.le_trans (Nat.le_of_ble_eq_true rfl) hd) ls_Ru_88 (rAi (rAi (rAr rA0 (rAn 1 d_Ru_lastTold_87 rfl)) (rIn 3 d_Ru_lastTold_88 rfl)) (rI d_Ru_lastTold_89 rfl)) (by decide) d_Ru_lastTold_90)) (rS p_D_column (Nat.le_trans (Nat.le_of_ble_eq_true rfl) hd) ls_Ru_88 (rAi (rAi (rAr rA0 (rAn 1 d_Ru_lastTold_93 rfl)) (rIn 3 d_Ru_lastTold_94 rfl)) (rI d_Ru_lastTold_95 rfl)) (by decide) d_Ru_lastTold_96))) (by decide) d_Ru_lastTold_99) d_Ru_lastTold_102 (by decide)) (sIf (pn := 117) (tt := 114) (xC (rNot (rJ1 (tgt := 117) k_ne (rF 2 fl_Ru_95 nk_3_2 (rFr fl_Ru_12 nk_7_0 (rAn 0 d_Ru_lastTold_104 rfl) d_Ru_lastTold_105) d_Ru_lastTold_108 rfl) d_Ru_lastTold_111 (by decide)))) (sRi (xE (rIl d_Ru_lastTold_114)) d_Ru_lastTold_116 rfl)))))))) (sGo (pn := 6) (sInc d_Ru_lastTold_117 (by decide)) d_Ru_lastTold_120 (by decide)))) (sRi (xE (rLd kc_Ru_54 d_Ru_lastTold_123 rfl)) d_Ru_lastTold_125 rfl)))
theorem q_Ru_lastTold {d : Nat} (hd : 5 ≤ d) {μ : zMem} {P : Nat} {kind : Int} {cls : List Cls} {W : Int → Int} (hP : zkd P = 0 ∧ zln P = 385 ∧ P < 325) (hL : LwC false (μ P) cls) (hW : μ 326 = W) (hw : ∀ i : Int, 0 ≤ i → i < 60 → okV (W i)) : zSp d 0 0 y_Ru_lastTold zT0 [vr 324, vr P, vi kind] μ zT0 (fun r μ' => r = some (vi (lsV kind (lstT W kind cls))) ∧ zfc [325, 327] μ μ') := by
  refine zSp.ss [vr 324, vr P, vi kind, vx 0, vx 0, vx 0, vx 0] rfl (w_Ru_lastTold (Nat.le_trans (by decide) hd)) rfl rfl ?_
  (try simp only [zit_e, Bool.and_eq_true, Bool.or_eq_true, Bool.not_eq_true', Bool.and_eq_false_iff, Bool.or_eq_false_iff, Bool.not_eq_false', zbe, zdt, zdf, zb2_p, zbp_0, zbp_1, zbp_inj, zbp_01, Bool.true_eq_false, Bool.false_eq_true, true_and, and_true, Decidable.not_not, Classical.not_not, implies_true, List.nil_append, List.cons_append, List.append_assoc, Option.some.injEq, Sum.inl.injEq, zSw_c, zSw_n]); (try simp only [zit_e, Bool.and_eq_true, Bool.or_eq_true, Bool.not_eq_true', Bool.and_eq_false_iff, Bool.or_eq_false_iff, Bool.not_eq_false', zbe, zdt, zdf, zb2_p, zbp_0, zbp_1, zbp_inj, zbp_01, Bool.true_eq_false, Bool.false_eq_true, true_and, and_true, Decidable.not_not, Classical.not_not, implies_true, List.nil_append, List.cons_append, List.append_assoc, Option.some.injEq, Sum.inl.injEq, zSw_c, zSw_n, zc_324, f_D_column, g_D_column, hP.1, hP.2.1]); (try simp only [zi_cs, zi_c0, zii_cs, zii_c0, zl_cs, zl_c0, zll_cs, zll_c0, zr_cs, zr_c0, zrr_cs, zrr_c0, zxs_cs, zxs_c0, zxx_cs, zxx_c0, zfree_c0, zfree_c1, zfree_cs, zfree_cz, zlong_i, zlong_r, zlong_x, zset_0, zset_s, true_and, and_true, Option.some.injEq, Sum.inl.injEq, Sum.inr.injEq, zb2_p, zbp_0, zbp_1, zbp_inj, zbp_01, Nat.zero_add, Nat.reduceAdd, implies_true, List.nil_append, List.cons_append, List.append_assoc, Int.not_lt, Int.not_le, Decidable.not_not, Int.zero_add, Int.reduceLE, Int.reduceLT, Int.reduceEq, Int.reduceNe, Int.reduceAdd, Int.reduceSub, Int.reduceMul, Int.reduceNeg, Int.reduceToNat, Nat.reduceMul, Nat.reduceLT, Nat.reduceEqDiff, and_self, ite_true, ite_false, zx1, zx2, zRecv, List.length_cons, List.length_nil, ne_eq, not_true_eq_false, not_false_eq_true, true_or, or_true, or_false, false_or, and_false, false_and, zf01, zf10, reduceCtorEq, zSw_c, zSw_n, zm_r, zit_T, zit_F, false_implies, true_implies, zc_324, f_D_column, g_D_column, hP.1, hP.2.1])
  obtain ⟨hL0, hL1, hL2⟩ := hL
  rw [hL0]
  refine ⟨zI_s (by omega) (by omega), ?_⟩
  refine zLoop.mk (fun k ρ μ1 => ∃ (j : Nat) (x4 x5 x6 : zV), ρ = [vr 324, vr P, vi kind, vi ((j : Int) - 1), x4, x5, x6] ∧ j ≤ cls.length ∧ lstT W kind (cls.drop j) = none ∧ zfc [325, 327] μ μ1 ∧ k = j) cls.length ⟨cls.length, vx 0, vx 0, vx 0, rfl, Nat.le_refl _, by rw [List.drop_length]; rfl, zfc.rf, rfl⟩ ?_
  rintro k ρ μ1 ⟨j, x4, x5, x6, rfl, hj, hN, hF, rfl⟩
  have hPk : μ1 P = μ P := hF P (by simp only [List.mem_cons, List.not_mem_nil, or_false]; omega)
  have hWk : μ1 326 = W := (hF 326 (by decide)).trans hW
  (try simp only [zit_e, Bool.and_eq_true, Bool.or_eq_true, Bool.not_eq_true', Bool.and_eq_false_iff, Bool.or_eq_false_iff, Bool.not_eq_false', zbe, zdt, zdf, zb2_p, zbp_0, zbp_1, zbp_inj, zbp_01, Bool.true_eq_false, Bool.false_eq_true, true_and, and_true, Decidable.not_not, Classical.not_not, implies_true, List.nil_append, List.cons_append, List.append_assoc, Option.some.injEq, Sum.inl.injEq, zSw_c, zSw_n]); (try simp only [zit_e, Bool.and_eq_true, Bool.or_eq_true, Bool.not_eq_true', Bool.and_eq_false_iff, Bool.or_eq_false_iff, Bool.not_eq_false', zbe, zdt, zdf, zb2_p, zbp_0, zbp_1, zbp_inj, zbp_01, Bool.true_eq_false, Bool.false_eq_true, true_and, and_true, Decidable.not_not, Classical.not_not, implies_true, List.nil_append, List.cons_append, List.append_assoc, Option.some.injEq, Sum.inl.injEq, zSw_c, zSw_n, zc_324, f_D_column, g_D_column, hP.1, hP.2.1]); (try simp only [zi_cs, zi_c0, zii_cs, zii_c0, zl_cs, zl_c0, zll_cs, zll_c0, zr_cs, zr_c0, zrr_cs, zrr_c0, zxs_cs, zxs_c0, zxx_cs, zxx_c0, zfree_c0, zfree_c1, zfree_cs, zfree_cz, zlong_i, zlong_r, zlong_x, zset_0, zset_s, true_and, and_true, Option.some.injEq, Sum.inl.injEq, Sum.inr.injEq, zb2_p, zbp_0, zbp_1, zbp_inj, zbp_01, Nat.zero_add, Nat.reduceAdd, implies_true, List.nil_append, List.cons_append, List.append_assoc, Int.not_lt, Int.not_le, Decidable.not_not, Int.zero_add, Int.reduceLE, Int.reduceLT, Int.reduceEq, Int.reduceNe, Int.reduceAdd, Int.reduceSub, Int.reduceMul, Int.reduceNeg, Int.reduceToNat, Nat.reduceMul, Nat.reduceLT, Nat.reduceEqDiff, and_self, ite_true, ite_false, zx1, zx2, zRecv, List.length_cons, List.length_nil, ne_eq, not_true_eq_false, not_false_eq_true, true_or, or_true, or_false, false_or, and_false, false_and, zf01, zf10, reduceCtorEq, zSw_c, zSw_n, zm_r, zit_T, zit_F, false_implies, true_implies, zc_324, f_D_column, g_D_column, hP.1, hP.2.1])
  rw [hPk]
  refine zif (fun c0 => ?_) (fun c0 => ?_)
  · obtain ⟨i, rfl⟩ : ∃ i, k = i + 1 := ⟨k - 1, by omega⟩
    rw [show (((i + 1 : Nat) : Int) - 1) = i by omega]
    have hi : i < cls.length := by omega
    generalize hcd : cls[i] = cl
    have hcl : cls[i]? = some cl := by rw [List.getElem?_eq_getElem hi, hcd]
    obtain ⟨hH, hS, hpl, hbd, h3⟩ := hL2 i cl hcl
    obtain ⟨g0, -, g2, -, g5, g6⟩ := hH
    have g2 := g2 (fun q => by cases q.1)
    have hSm := hS.1
    have hST := hS.2
    rw [if_neg (by decide)] at hSm
    have hdr : cls.drop i = cl :: cls.drop (i + 1) := by rw [← hcd]; exact List.drop_eq_getElem_cons hi
    have hls : lstT W kind (cls.drop i) = tlC W kind cl := by
      rw [hdr, lstT, hN]
      rfl
    have fin : ∀ {s : Int}, tlC W kind cl = some s → lstT W kind cls = some s := by
      intro s e
      rw [← List.take_append_drop i cls, lstT_cat, hls, e]
      rfl
    have nxt : ∀ {y4 y5 y6 : zV} {μx : zMem}, tlC W kind cl = none → zfc [325, 327] μ μx → zI ((i : Int) + -1) ∧ ∃ m', m' < i + 1 ∧ ∃ (j : Nat) (x4 x5 x6 : zV), [vr 324, vr P, vi kind, vi ((i : Int) + -1), y4, y5, y6] = [vr 324, vr P, vi kind, vi ((j : Int) - 1), x4, x5, x6] ∧ j ≤ cls.length ∧ lstT W kind (cls.drop j) = none ∧ zfc [325, 327] μ μx ∧ m' = j := by
      intro y4 y5 y6 μx e1 e2
      exact ⟨zI_s (by omega) (by omega), i, by omega, i, y4, y5, y6, by rw [Int.sub_eq_add_neg], by omega, hls.trans e1, e2, rfl⟩
    have va : ∀ {a b : Nat} {m : Mn} {μx : zMem} {K : zRo}, zfc [325, 327] μ μx → runs1 (μ P) a b m → a ≤ b → b ≤ 385 → (∀ i : Int, (a : Int) ≤ i → i < (b : Int) → 0 ≤ μ P i ∧ μ P i ≤ 1000000) → (∀ μ', zfc [325, 327] μ μ' → μ' 325 2 = (if m W = none then 1 else 0) → K (some (vi ((m W).getD 0))) μ') → zCw d y_Ma_value [vr 325, vr P, vi a, vi b] μx K := by
      intro a b m μx K e1 e2 e3 e4 e5 e6
      have p1 : μx P = μ P := e1 P (by simp only [List.mem_cons, List.not_mem_nil, or_false]; omega)
      have p2 : μx 326 = W := (e1 326 (by decide)).trans hW
      refine zCw.use (q_Ma_value (d := 4) (Nat.le_refl _) hP (by omega) (by rw [p1]; exact e5) (by rw [p2]; exact hw)) (by omega) (fun q μ' e => ?_)
      obtain ⟨rfl, f1, f2⟩ := e
      rw [p1, p2, Int.toNat_natCast, Int.toNat_natCast, e2 W] at f1 ⊢
      exact e6 μ' ((e1.tr f2).mo (by simp)) f1
    rw [Int.add_zero, g0, g2.1, g5, g6]
    refine ⟨by omega, ?_⟩
    refine zif (fun c1 => ?_) (fun c1 => ?_)
    · refine nxt ?_ hF
      unfold tlC
      rw [if_neg (fun q => c1 q.1)]
    have c1 : cl.1 = kind := Classical.not_not.mp c1
    refine ⟨by omega, by omega, ?_⟩
    have tail : ∀ {μx : zMem} {n5 n6 : zV}, zfc [325, 327] μ μx → hlT cl.2.2.2.2.2.2 W = true → @ite Prop (kind = 3) (Int.instDecidableEq kind 3) ((0 : Int) = lsV kind (lstT W kind cls) ∧ zfc [325, 327] μ μx) ((0 ≤ (i : Int) ∧ (i : Int) ≤ 11) ∧ zO 3 325 = true ∧ zCw d y_Ma_value [vr 325, vr P, vi (cl.2.2.1.1 : Nat), vi (cl.2.2.1.2.1 : Nat)] μx (fun q μ2 => ∃ n, q = some (vi n) ∧ zO 3 325 = true ∧ if μ2 325 2 = 0 then n = lsV kind (lstT W kind cls) ∧ zfc [325, 327] μ μ2 else zI ((i : Int) + -1) ∧ ∃ m', m' < i + 1 ∧ ∃ (j : Nat) (x4 x5 x6 : zV), [vr 324, vr P, vi kind, vi ((i : Int) + -1), n5, n6, vi n] = [vr 324, vr P, vi kind, vi ((j : Int) - 1), x4, x5, x6] ∧ j ≤ cls.length ∧ lstT W kind (cls.drop j) = none ∧ zfc [325, 327] μ μ2 ∧ m' = j)) := by
      intro μx n5 n6 e1 e2
      have ht : tlC W kind cl = cl.2.2.2.1 W := by
        unfold tlC
        rw [if_pos ⟨c1, e2⟩]
      refine zif (fun c3 => ?_) (fun c3 => ?_)
      · rw [fin (ht.trans (h3 rfl (c1.trans c3) W)), lsV, if_pos c3]
        exact ⟨rfl, e1⟩
      refine ⟨by omega, zc_325.1, ?_⟩
      refine va (m := cl.2.2.2.1) e1 (hSm.resolve_left (by omega)) hpl.1 (by omega) (fun i h0 h1 => hbd i h0 (by omega)) (fun μ2 f1 f2 => ⟨_, rfl, zc_325.1, ?_⟩)
      rcases e3 : cl.2.2.2.1 W with _ | s
      · have f3 : μ2 325 2 = 1 := by rw [f2, if_pos e3]
        rw [if_neg (by omega)]
        exact nxt (ht.trans e3) f1
      · have f3 : μ2 325 2 = 0 := by rw [f2, if_neg (by rw [e3]; simp)]
        rw [if_pos f3, fin (ht.trans e3), lsV, if_neg c3]
        exact ⟨rfl, f1⟩
    rw [g2.2]
    generalize hmt : cl.2.2.2.2.2.2 = mt at *
    refine zif (fun c2 => ?_) (fun c2 => ?_)
    · rcases mt with _ | m
      · have : cl.2.2.1.2.2.2.1 = cl.2.2.1.2.2.2.2 := hST
        omega
      refine ⟨zc_325.1, va (m := m) hF hST.2 hpl.2.2.2.1 hpl.2.2.2.2 (fun i h0 h1 => hbd i (by omega) h1) (fun μ2 f1 f2 => ⟨_, rfl, ?_⟩)⟩
      have hno : hlT (some m) W = false → tlC W kind cl = none := by
        intro q
        unfold tlC
        rw [hmt, if_neg (fun z => by rw [q] at z; cases z.2)]
      refine zif (fun c3 => ?_) (fun c3 => ?_)
      · refine nxt (hno ?_) f1
        rcases e3 : m W with _ | y
        · exact hlT_n e3
        · rw [e3] at c3
          have c3 : y = 0 := c3
          rw [hlT_y e3, c3]
          rfl
      rcases e3 : m W with _ | y
      · rw [e3] at c3
        exact absurd rfl c3
      rw [e3] at c3
      have c3 : ¬ y = 0 := c3
      have f3 : μ2 325 2 = 0 := by rw [f2, if_neg (by rw [e3]; simp)]
      have hyes : hlT (some m) W = true := by
        rw [hlT_y e3]
        simp [c3]
      refine ⟨zc_325.1, ?_⟩
      rw [if_neg (fun q => q f3), f1 P (by simp only [List.mem_cons, List.not_mem_nil, or_false]; omega), g2.1, g2.2]
      exact tail f1 hyes
    · rcases mt with _ | m
      · exact tail hF rfl
      · have : cl.2.2.1.2.2.2.1 < cl.2.2.1.2.2.2.2 := hST.1
        omega
  · have hk0 : k = 0 := by omega
    subst hk0
    rw [List.drop_zero] at hN
    rw [hN]
    exact ⟨rfl, hF⟩

