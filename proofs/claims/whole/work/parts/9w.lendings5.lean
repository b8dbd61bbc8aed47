/-! lendings: the class's answer -/
def puA (A : Lg) : Int → Int := fun p => gL 0 A.1 p
noncomputable def lnA (Z : Zt) (F : Option (List Cls)) (A : Lg) (w : Int → Int) (V : List D4) (x : Int) : Int := match lgS (ndA Z F A w) V V.length with
  | none => -1
  | some L => zit (x = 0) (L.length : Int) (zit (x = 1) (toS L) (zit (x = 2) (lnR L (puA A) L.length 0) (zit (0 ≤ x - 3 ∧ x - 3 < (L.length : Int) ∧ lnR L (puA A) L.length 0 ≠ 0) (dfV L (frP (nxS L (puA A)) L.length ((x - 3).toNat + 1)).2).2.2.2 (-1))))
theorem chS_c {P Q : Nat → Nat → Prop} {n : Nat} (h : ∀ b k : Nat, b < 2 ^ n → k < n → (P b k ↔ Q b k)) : ∀ b, b < 2 ^ n → chS P n b = chS Q n b := by
    intro b hbb
    unfold chS
    have : ∀ (m : Nat) (x : Int), 0 ≤ x → x + m ≤ n → fstN (fun k => P b k.toNat) m x = fstN (fun k => Q b k.toNat) m x := by
      intro m
      induction m with
      | zero => intro x _ _; rfl
      | succ m ih =>
        intro x h0 h1
        have hx := h b x.toNat hbb (by omega)
        rw [fstN, fstN, ih (x + 1) (by omega) (by omega)]
        by_cases c : Q b x.toNat
        · rw [zit_t c, zit_t (hx.mpr c)]
        · rw [zit_f c, zit_f (fun q => c (hx.mp q))]
    exact this n 0 (by omega) (by omega)
theorem frP_c {P Q : Nat → Nat → Prop} {n : Nat} (h : ∀ b k : Nat, b < 2 ^ n → k < n → (P b k ↔ Q b k)) (hb : ∀ p, p ≤ n → (frP Q n p).1 < 2 ^ n) : ∀ p : Nat, p ≤ n + 1 → p ≤ n + 1 → frP P n p = frP Q n p := by
  have hch := chS_c h
  intro p
  induction p with
  | zero => intro _ _; rfl
  | succ p ih =>
    intro h1 h2
    have := ih (by omega) (by omega)
    rw [frP, frP, this, hch _ (hb p (by omega))]
theorem m_Ln_gather : Cond.instanceMethod y_Ln_gather.1 ∈ zTb ∧ Cond.selects y_Ln_gather.1.cls y_Ln_gather.1 y_Ln_gather.1 ∈ zTb ∧ Cond.initialized y_Ln_gather.1.cls ∈ zTb ∧ Cond.code y_Ln_gather.1 y_Ln_gather.2.1 y_Ln_gather.2.2.1 y_Ln_gather.2.2.2 ∈ zTb ∧ (y_Ln_gather.1.cls ≠ "java/lang/invoke/MethodHandle" ∧ y_Ln_gather.1.cls ≠ "java/lang/invoke/VarHandle" ∧ (parseMethodDescriptor y_Ln_gather.1.desc).map (fun d => d.parameters.length) = some 2) ∧ y_Ln_gather.2.2.1 ≤ 20 :=
  ⟨(zTb_in 1102 (by decide +kernel) (by decide +kernel)), (zTb_in 1103 (by decide +kernel) (by decide +kernel)), (zTb_in 146 (by decide +kernel) (by decide +kernel)), (zTb_in 1104 (by decide +kernel) (by decide +kernel)), by decide +kernel, by decide +kernel⟩
theorem lv_D_347 : zLv "DebtDoors" 347 y_Ln_gather 2 2 := ⟨⟨(zTb_in 1101 (by decide +kernel) (by decide +kernel)), m_Ln_gather.1, m_Ln_gather.2.1, m_Ln_gather.2.2⟩, _, rfl, rfl⟩
theorem nk_11_8 : zNk 11 8 = none := rfl
theorem fl_D_351 : zFl "DebtDoors" 351 2 5 := ⟨_, rfl, by decide, (zTb_in 404 (by decide +kernel) (by decide +kernel)), rfl⟩
theorem fl_D_352 : zFl "DebtDoors" 352 2 6 := ⟨_, rfl, by decide, (zTb_in 406 (by decide +kernel) (by decide +kernel)), rfl⟩
theorem m_Ln_countRows : Cond.instanceMethod y_Ln_countRows.1 ∈ zTb ∧ Cond.selects y_Ln_countRows.1.cls y_Ln_countRows.1 y_Ln_countRows.1 ∈ zTb ∧ Cond.initialized y_Ln_countRows.1.cls ∈ zTb ∧ Cond.code y_Ln_countRows.1 y_Ln_countRows.2.1 y_Ln_countRows.2.2.1 y_Ln_countRows.2.2.2 ∈ zTb ∧ (y_Ln_countRows.1.cls ≠ "java/lang/invoke/MethodHandle" ∧ y_Ln_countRows.1.cls ≠ "java/lang/invoke/VarHandle" ∧ (parseMethodDescriptor y_Ln_countRows.1.desc).map (fun d => d.parameters.length) = some 1) ∧ y_Ln_countRows.2.2.1 ≤ 20 :=
  ⟨(zTb_in 1114 (by decide +kernel) (by decide +kernel)), (zTb_in 1115 (by decide +kernel) (by decide +kernel)), (zTb_in 146 (by decide +kernel) (by decide +kernel)), (zTb_in 1116 (by decide +kernel) (by decide +kernel)), by decide +kernel, by decide +kernel⟩
theorem lv_D_355 : zLv "DebtDoors" 355 y_Ln_countRows 1 2 := ⟨⟨(zTb_in 1113 (by decide +kernel) (by decide +kernel)), m_Ln_countRows.1, m_Ln_countRows.2.1, m_Ln_countRows.2.2⟩, _, rfl, rfl⟩
theorem m_Ln_inFirstRow : Cond.instanceMethod y_Ln_inFirstRow.1 ∈ zTb ∧ Cond.selects y_Ln_inFirstRow.1.cls y_Ln_inFirstRow.1 y_Ln_inFirstRow.1 ∈ zTb ∧ Cond.initialized y_Ln_inFirstRow.1.cls ∈ zTb ∧ Cond.code y_Ln_inFirstRow.1 y_Ln_inFirstRow.2.1 y_Ln_inFirstRow.2.2.1 y_Ln_inFirstRow.2.2.2 ∈ zTb ∧ (y_Ln_inFirstRow.1.cls ≠ "java/lang/invoke/MethodHandle" ∧ y_Ln_inFirstRow.1.cls ≠ "java/lang/invoke/VarHandle" ∧ (parseMethodDescriptor y_Ln_inFirstRow.1.desc).map (fun d => d.parameters.length) = some 2) ∧ y_Ln_inFirstRow.2.2.1 ≤ 20 :=
  ⟨(zTb_in 1126 (by decide +kernel) (by decide +kernel)), (zTb_in 1127 (by decide +kernel) (by decide +kernel)), (zTb_in 146 (by decide +kernel) (by decide +kernel)), (zTb_in 1128 (by decide +kernel) (by decide +kernel)), by decide +kernel, by decide +kernel⟩
theorem lv_D_358 : zLv "DebtDoors" 358 y_Ln_inFirstRow 2 2 := ⟨⟨(zTb_in 1125 (by decide +kernel) (by decide +kernel)), m_Ln_inFirstRow.1, m_Ln_inFirstRow.2.1, m_Ln_inFirstRow.2.2⟩, _, rfl, rfl⟩
def y_D_lendings : zMt := (⟨"DebtDoors", "lendings", "(I)I"⟩, prog_1_method_43_code, 4, some .int)
theorem d_D_lendings_0 : decode prog_1_method_43_code 0 = .ok (.iload_n 1, 1) := by decide +kernel
theorem d_D_lendings_1 : decode prog_1_method_43_code 1 = .ok (.ifCond .lt 21, 3) := by decide +kernel
theorem d_D_lendings_4 : decode prog_1_method_43_code 4 = .ok (.aload_n 0, 1) := by decide +kernel
theorem d_D_lendings_5 : decode prog_1_method_43_code 5 = .ok (.getfield 58, 3) := by decide +kernel
theorem d_D_lendings_8 : decode prog_1_method_43_code 8 = .ok (.aload_n 0, 1) := by decide +kernel
theorem d_D_lendings_9 : decode prog_1_method_43_code 9 = .ok (.getfield 12, 3) := by decide +kernel
theorem d_D_lendings_12 : decode prog_1_method_43_code 12 = .ok (.aload_n 0, 1) := by decide +kernel
theorem d_D_lendings_13 : decode prog_1_method_43_code 13 = .ok (.getfield 51, 3) := by decide +kernel
theorem d_D_lendings_16 : decode prog_1_method_43_code 16 = .ok (.invokevirtual 347, 3) := by decide +kernel
theorem d_D_lendings_19 : decode prog_1_method_43_code 19 = .ok (.ifCond .ne 5, 3) := by decide +kernel
theorem d_D_lendings_22 : decode prog_1_method_43_code 22 = .ok (.iconst (-1), 1) := by decide +kernel
theorem d_D_lendings_23 : decode prog_1_method_43_code 23 = .ok (.ireturn, 1) := by decide +kernel
theorem d_D_lendings_24 : decode prog_1_method_43_code 24 = .ok (.iload_n 1, 1) := by decide +kernel
theorem d_D_lendings_25 : decode prog_1_method_43_code 25 = .ok (.ifCond .ne 11, 3) := by decide +kernel
theorem d_D_lendings_28 : decode prog_1_method_43_code 28 = .ok (.aload_n 0, 1) := by decide +kernel
theorem d_D_lendings_29 : decode prog_1_method_43_code 29 = .ok (.getfield 58, 3) := by decide +kernel
theorem d_D_lendings_32 : decode prog_1_method_43_code 32 = .ok (.getfield 351, 3) := by decide +kernel
theorem d_D_lendings_35 : decode prog_1_method_43_code 35 = .ok (.ireturn, 1) := by decide +kernel
theorem d_D_lendings_36 : decode prog_1_method_43_code 36 = .ok (.iload_n 1, 1) := by decide +kernel
theorem d_D_lendings_37 : decode prog_1_method_43_code 37 = .ok (.iconst 1, 1) := by decide +kernel
theorem d_D_lendings_38 : decode prog_1_method_43_code 38 = .ok (.if_icmp .ne 11, 3) := by decide +kernel
theorem d_D_lendings_41 : decode prog_1_method_43_code 41 = .ok (.aload_n 0, 1) := by decide +kernel
theorem d_D_lendings_42 : decode prog_1_method_43_code 42 = .ok (.getfield 58, 3) := by decide +kernel
theorem d_D_lendings_45 : decode prog_1_method_43_code 45 = .ok (.getfield 352, 3) := by decide +kernel
theorem d_D_lendings_48 : decode prog_1_method_43_code 48 = .ok (.ireturn, 1) := by decide +kernel
theorem d_D_lendings_49 : decode prog_1_method_43_code 49 = .ok (.aload_n 0, 1) := by decide +kernel
theorem d_D_lendings_50 : decode prog_1_method_43_code 50 = .ok (.getfield 58, 3) := by decide +kernel
theorem d_D_lendings_53 : decode prog_1_method_43_code 53 = .ok (.aload_n 0, 1) := by decide +kernel
theorem d_D_lendings_54 : decode prog_1_method_43_code 54 = .ok (.getfield 12, 3) := by decide +kernel
theorem d_D_lendings_57 : decode prog_1_method_43_code 57 = .ok (.getfield 115, 3) := by decide +kernel
theorem d_D_lendings_60 : decode prog_1_method_43_code 60 = .ok (.invokevirtual 355, 3) := by decide +kernel
theorem d_D_lendings_63 : decode prog_1_method_43_code 63 = .ok (.istore_n 2, 1) := by decide +kernel
theorem d_D_lendings_64 : decode prog_1_method_43_code 64 = .ok (.iload_n 1, 1) := by decide +kernel
theorem d_D_lendings_65 : decode prog_1_method_43_code 65 = .ok (.iconst 2, 1) := by decide +kernel
theorem d_D_lendings_66 : decode prog_1_method_43_code 66 = .ok (.if_icmp .ne 5, 3) := by decide +kernel
theorem d_D_lendings_69 : decode prog_1_method_43_code 69 = .ok (.iload_n 2, 1) := by decide +kernel
theorem d_D_lendings_70 : decode prog_1_method_43_code 70 = .ok (.ireturn, 1) := by decide +kernel
theorem d_D_lendings_71 : decode prog_1_method_43_code 71 = .ok (.iload_n 1, 1) := by decide +kernel
theorem d_D_lendings_72 : decode prog_1_method_43_code 72 = .ok (.iconst 3, 1) := by decide +kernel
theorem d_D_lendings_73 : decode prog_1_method_43_code 73 = .ok (.isub, 1) := by decide +kernel
theorem d_D_lendings_74 : decode prog_1_method_43_code 74 = .ok (.istore_n 3, 1) := by decide +kernel
theorem d_D_lendings_75 : decode prog_1_method_43_code 75 = .ok (.iload_n 2, 1) := by decide +kernel
theorem d_D_lendings_76 : decode prog_1_method_43_code 76 = .ok (.ifCond .eq 14, 3) := by decide +kernel
theorem d_D_lendings_79 : decode prog_1_method_43_code 79 = .ok (.iload_n 3, 1) := by decide +kernel
theorem d_D_lendings_80 : decode prog_1_method_43_code 80 = .ok (.aload_n 0, 1) := by decide +kernel
theorem d_D_lendings_81 : decode prog_1_method_43_code 81 = .ok (.getfield 58, 3) := by decide +kernel
theorem d_D_lendings_84 : decode prog_1_method_43_code 84 = .ok (.getfield 351, 3) := by decide +kernel
theorem d_D_lendings_87 : decode prog_1_method_43_code 87 = .ok (.if_icmp .lt 5, 3) := by decide +kernel
theorem d_D_lendings_90 : decode prog_1_method_43_code 90 = .ok (.iconst (-1), 1) := by decide +kernel
theorem d_D_lendings_91 : decode prog_1_method_43_code 91 = .ok (.ireturn, 1) := by decide +kernel
theorem d_D_lendings_92 : decode prog_1_method_43_code 92 = .ok (.aload_n 0, 1) := by decide +kernel
theorem d_D_lendings_93 : decode prog_1_method_43_code 93 = .ok (.getfield 58, 3) := by decide +kernel
theorem d_D_lendings_96 : decode prog_1_method_43_code 96 = .ok (.aload_n 0, 1) := by decide +kernel
theorem d_D_lendings_97 : decode prog_1_method_43_code 97 = .ok (.getfield 12, 3) := by decide +kernel
theorem d_D_lendings_100 : decode prog_1_method_43_code 100 = .ok (.getfield 115, 3) := by decide +kernel
theorem d_D_lendings_103 : decode prog_1_method_43_code 103 = .ok (.iload_n 3, 1) := by decide +kernel
theorem d_D_lendings_104 : decode prog_1_method_43_code 104 = .ok (.invokevirtual 358, 3) := by decide +kernel
theorem d_D_lendings_107 : decode prog_1_method_43_code 107 = .ok (.ireturn, 1) := by decide +kernel
def w_D_lendings {d : Nat} (hd : 4 ≤ d) := (show SS ("DebtDoors", prog_1_method_43_code, 4) (some .int) d 0 0 0 0 _ from (sS (p1 := 24) (sIf (pn := 24) (tt := 22) (xOr (mm := 4) (xC (rJ1 (tgt := 22) k_lt (rIn 1 d_D_lendings_0 rfl) d_D_lendings_1 (by decide))) (xNot (xJ1 (tgt := 24) k_ne (xV lv_D_347 (xA (rAr (rAr (rAr rA0 (rFr fl_D_58 nk_11_8 (rAn 0 d_D_lendings_4 rfl) d_D_lendings_5)) (rFr fl_D_12 nk_11_0 (rAn 0 d_D_lendings_8 rfl) d_D_lendings_9)) (rFr fl_D_51 nk_11_7 (rAn 0 d_D_lendings_12 rfl) d_D_lendings_13))) (by decide) d_D_lendings_16) d_D_lendings_19 (by decide)))) (sRi (xE (rI d_D_lendings_22 rfl)) d_D_lendings_23 rfl)) (sS (p1 := 36) (sIf (pn := 36) (tt := 28) (xC (rNot (rJ1 (tgt := 36) k_ne (rIn 1 d_D_lendings_24 rfl) d_D_lendings_25 (by decide)))) (sRi (xE (rF 5 fl_D_351 nk_2_5 (rFr fl_D_58 nk_11_8 (rAn 0 d_D_lendings_28 rfl) d_D_lendings_29) d_D_lendings_32 rfl)) d_D_lendings_35 rfl)) (sS (p1 := 49) (sIf (pn := 49) (tt := 41) (xC (rNot (rJ2 (tgt := 49) j_ne (rIn 1 d_D_lendings_36 rfl) (rI d_D_lendings_37 rfl) d_D_lendings_38 (by decide)))) (sRi (xE (rF 6 fl_D_352 nk_2_6 (rFr fl_D_58 nk_11_8 (rAn 0 d_D_lendings_41 rfl) d_D_lendings_42) d_D_lendings_45 rfl)) d_D_lendings_48 rfl)) (sS (p1 := 64) (sIn 2 (xV lv_D_355 (xA (rAr (rAr rA0 (rFr fl_D_58 nk_11_8 (rAn 0 d_D_lendings_49 rfl) d_D_lendings_50)) (rFr fl_D_115 nk_9_0 (rFr fl_D_12 nk_11_0 (rAn 0 d_D_lendings_53 rfl) d_D_lendings_54) d_D_lendings_57))) (by decide) d_D_lendings_60) d_D_lendings_63 rfl (by decide)) (sS (p1 := 71) (sIf (pn := 71) (tt := 69) (xC (rNot (rJ2 (tgt := 71) j_ne (rIn 1 d_D_lendings_64 rfl) (rI d_D_lendings_65 rfl) d_D_lendings_66 (by decide)))) (sRi (xE (rIn 2 d_D_lendings_69 rfl)) d_D_lendings_70 rfl)) (sS (p1 := 75) (sIn 3 (xE (r2 o_sub (rIn 1 d_D_lendings_71 rfl) (rI d_D_lendings_72 rfl) d_D_lendings_73)) d_D_lendings_74 rfl (by decide)) (sS (p1 := 92) (sIf (pn := 92) (tt := 90) (xC (rOr (mm := 79) (rJ1 (tgt := 90) k_eq (rIn 2 d_D_lendings_75 rfl) d_D_lendings_76 (by decide)) (rNot (rJ2 (tgt := 92) j_lt (rIn 3 d_D_lendings_79 rfl) (rF 5 fl_D_351 nk_2_5 (rFr fl_D_58 nk_11_8 (rAn 0 d_D_lendings_80 rfl) d_D_lendings_81) d_D_lendings_84 rfl) d_D_lendings_87 (by decide))))) (sRi (xE (rI d_D_lendings_90 rfl)) d_D_lendings_91 rfl)) (sRi (xE (rV p_Ln_inFirstRow (Nat.le_trans (Nat.le_of_ble_eq_true rfl) hd) lv_D_358 (rAi (rAr (rAr rA0 (rFr fl_D_58 nk_11_8 (rAn 0 d_D_lendings_92 rfl) d_D_lendings_93)) (rFr fl_D_115 nk_9_0 (rFr fl_D_12 nk_11_0 (rAn 0 d_D_lendings_96 rfl) d_D_lendings_97) d_D_lendings_100)) (rIn 3 d_D_lendings_103 rfl)) (by decide) d_D_lendings_104)) d_D_lendings_107 rfl)))))))))
theorem q_D_lendings {d : Nat} (hd : 9 ≤ d) {μ : zMem} {Z : Zt} {F : Option (List Cls)} {A : Lg} {w : Int → Int} {V : List D4} {x : Int} (hx : zI x) (hC : CTx μ Z F A w) (hV : VCx 11 8 999 μ V) : zSp d 0 0 y_D_lendings zT0 [vr 0, vi x] μ zT0 (fun q μ' => q = some (vi (zit (x < 0) (-1) (lnA Z F A w V x))) ∧ HM μ μ' ∧ KC μ μ') := by
  refine zSp.ss [vr 0, vi x, vx 0, vx 0] rfl (w_D_lendings (Nat.le_trans (by decide) hd)) rfl rfl ?_
  (try simp only [zit_e, Bool.and_eq_true, Bool.or_eq_true, Bool.not_eq_true', Bool.and_eq_false_iff, Bool.or_eq_false_iff, Bool.not_eq_false', zbe, zdt, zdf, zb2_p, zbp_0, zbp_1, zbp_inj, zbp_01, Bool.true_eq_false, Bool.false_eq_true, true_and, and_true, Decidable.not_not, Classical.not_not, implies_true, List.nil_append, List.cons_append, List.append_assoc, Option.some.injEq, Sum.inl.injEq, zSw_c, zSw_n]); (try simp only [zit_e, Bool.and_eq_true, Bool.or_eq_true, Bool.not_eq_true', Bool.and_eq_false_iff, Bool.or_eq_false_iff, Bool.not_eq_false', zbe, zdt, zdf, zb2_p, zbp_0, zbp_1, zbp_inj, zbp_01, Bool.true_eq_false, Bool.false_eq_true, true_and, and_true, Decidable.not_not, Classical.not_not, implies_true, List.nil_append, List.cons_append, List.append_assoc, Option.some.injEq, Sum.inl.injEq, zSw_c, zSw_n, zc_0, zc_1, zc_324, zc_328, f_Ln_inFirstRow, g_Ln_inFirstRow]); (try simp only [zi_cs, zi_c0, zii_cs, zii_c0, zl_cs, zl_c0, zll_cs, zll_c0, zr_cs, zr_c0, zrr_cs, zrr_c0, zxs_cs, zxs_c0, zxx_cs, zxx_c0, zfree_c0, zfree_c1, zfree_cs, zfree_cz, zlong_i, zlong_r, zlong_x, zset_0, zset_s, true_and, and_true, Option.some.injEq, Sum.inl.injEq, Sum.inr.injEq, zb2_p, zbp_0, zbp_1, zbp_inj, zbp_01, Nat.zero_add, Nat.reduceAdd, implies_true, List.nil_append, List.cons_append, List.append_assoc, Int.not_lt, Int.not_le, Decidable.not_not, Int.zero_add, Int.reduceLE, Int.reduceLT, Int.reduceEq, Int.reduceNe, Int.reduceAdd, Int.reduceSub, Int.reduceMul, Int.reduceNeg, Int.reduceToNat, Nat.reduceMul, Nat.reduceLT, Nat.reduceEqDiff, and_self, ite_true, ite_false, zx1, zx2, zRecv, List.length_cons, List.length_nil, ne_eq, not_true_eq_false, not_false_eq_true, true_or, or_true, or_false, false_or, and_false, false_and, zf01, zf10, reduceCtorEq, zSw_c, zSw_n, zm_r, zit_T, zit_F, false_implies, true_implies, zc_0, zc_1, zc_324, zc_328, f_Ln_inFirstRow, g_Ln_inFirstRow])
  refine zif (fun c => ⟨(zit_t c).symm, HM.rf, KC.rf⟩) (fun c => ?_)
  rw [zit_f c]
  refine zCw.use (q_Ln_gather (d := 8) (by decide) hC hV) (by omega) (fun q μ2 e => ?_)
  obtain ⟨hF, hw2, e1, e2⟩ := e
  have hm : HM μ μ2 := hF.hm (by simp)
  have hk : KC μ μ2 := hF.kc2 (by simp [scC]) (fun _ => hw2.2)
  unfold lnA
  rcases hL : lgS (ndA Z F A w) V V.length with _ | L
  · have := e1 hL
    subst this
    exact ⟨_, rfl, by rw [if_pos rfl]; exact ⟨rfl, hm, hk⟩⟩
  obtain ⟨rfl, h5, h6, hA⟩ := e2 L hL
  have hin := lgS_in (nd := ndA Z F A w) hV.2.2 (fun _ _ _ => ndA_in) V.length (Nat.le_refl _) L hL
  have hVl := hV.l
  have hV8 := hV.1
  have h8 : L.length ≤ 8 := by omega
  refine ⟨_, rfl, ?_⟩
  rw [if_neg (by decide)]
  simp only
  refine zif (fun c0 => ?_) (fun c0 => ?_)
  · rw [zit_t c0]
    exact ⟨h5, hm, hk⟩
  rw [zit_f c0]
  refine zif (fun c1 => ?_) (fun c1 => ?_)
  · rw [zit_t c1]
    exact ⟨h6, hm, hk⟩
  rw [zit_f c1]
  have hd1 := hC.d
  have hpu : ∀ p : Int, 0 ≤ p → p < 7 → μ2 3 p = puA A p := fun p a b => by
    rw [hF 3 (by decide)]
    unfold puA
    rw [← hd1.2.2.1, gL_tL a (by omega)]
  have hP : okP (μ2 3) := fun p a b => by
    rw [hpu p a b]
    exact hC.2.1.1 p a b
  refine zCw.use (q_Ln_countRows (d := 5) (by decide) hA h5 h8 hin.2 hpu hP) (by omega) (fun q μ3 e => ?_)
  obtain ⟨rfl, hT, hF3⟩ := e
  have hm3 : HM μ μ3 := hm.tr (hF3.hm (by simp))
  have hk3 : KC μ μ3 := hk.tr (hF3.kc (by simp [scC]))
  refine ⟨_, rfl, ?_⟩
  refine zif (fun c2 => ?_) (fun c2 => ?_)
  · rw [zit_t c2]
    exact ⟨rfl, hm3, hk3⟩
  rw [zit_f c2]
  have k328 : μ3 328 = μ2 328 := hF3 328 (by decide)
  have kA : LnC L μ3 := by
    unfold LnC
    rw [hF3 329 (by decide), hF3 330 (by decide), hF3 331 (by decide), hF3 332 (by decide)]
    exact hA
  have k5 : μ3 328 5 = (L.length : Int) := by rw [k328]; exact h5
  have kp : ∀ p : Int, 0 ≤ p → p < 7 → μ3 3 p = puA A p := fun p x y => by rw [hF3 3 (by decide)]; exact hpu p x y
  have kN : okN μ3 := okN_L kA k5 h8 hin.2 (by rw [hF3 3 (by decide)]; exact hP)
  rw [k5]
  have hr0 := lnR_in (L := L) (pu := puA A) h8 L.length 0
  have hzx : zI (x - 3) := ⟨by omega, by have := hx.2; omega⟩
  refine ⟨hzx, ?_⟩
  refine zif (fun c3 => ?_) (fun c3 => ?_)
  · rw [zit_f (by omega)]
    exact ⟨rfl, hm3, hk3⟩
  rw [zit_t (by omega), Int.toNat_natCast]
  have hfr := frP_S h8 (show 0 < lnR L (puA A) L.length 0 by omega)
  have hp8 : 2 ^ L.length ≤ 2 ^ 8 := Nat.pow_le_pow_right (by decide) h8
  have h256 : (2 : Nat) ^ 8 = 256 := by decide
  have hiff : ∀ b k : Nat, b < 2 ^ L.length → k < L.length → (nxM μ3 b k ↔ nxS L (puA A) b k) := by
    intro b k hb hkl
    have hlc := lcM_S kA k5 hin.2 kp (b := b) (i := k) hkl
    have hgo : lcS L (puA A) b k → μ3 333 ((b + 2 ^ k : Nat) : Int) = lnR L (puA A) (L.length - pcN 8 (b + 2 ^ k)) (b + 2 ^ k) := fun q => by
      have hkt : b.testBit k = false := by
        cases r : b.testBit k with
        | false => rfl
        | true => exact absurd (zbit_n.mpr r) q.1
      exact hT _ (sub_all h8 hb hkl hkt)
    unfold nxM nxS
    constructor
    · rintro ⟨q1, q2⟩
      have q1 := hlc.mp q1
      rw [hgo q1] at q2
      exact ⟨q1, q2⟩
    · rintro ⟨q1, q2⟩
      rw [← hgo q1] at q2
      exact ⟨hlc.mpr q1, q2⟩
  have hfc := frP_c hiff (fun p hp => (hfr p hp).1.1)
  have hcc := chS_c hiff
  refine ⟨⟨kN, by omega, fun p hp => ?_⟩, ?_, hm3, hk3⟩
  · obtain ⟨⟨g1, g2, g3⟩, g4⟩ := hfr p (by omega)
    obtain ⟨g5, g6, g7⟩ := g4 (by omega)
    rw [hfc p (by omega) (by omega), hcc _ g1]
    refine ⟨g1, g5, g6, (hiff _ _ g1 (by omega)).mpr g7⟩
  · rw [hfc _ (by omega) (by omega)]
    obtain ⟨⟨g1, g2, g3⟩, g4⟩ := hfr (x - 3).toNat (by omega)
    obtain ⟨g5, g6, g7⟩ := g4 (by omega)
    have ec : (frP (nxS L (puA A)) L.length ((x - 3).toNat + 1)).2 = chS (nxS L (puA A)) L.length (frP (nxS L (puA A)) L.length (x - 3).toNat).1 := rfl
    rw [ec]
    have := kA (chS (nxS L (puA A)) L.length (frP (nxS L (puA A)) L.length (x - 3).toNat).1).toNat (by omega)
    rw [Int.toNat_of_nonneg g5] at this
    exact this.2.2

