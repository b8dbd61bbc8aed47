/-! which debts a thief buys -/
abbrev Bt : Type := Option (Int × Int)
noncomputable def btS (B : Bt) (paid chosen : Int) : Prop := match B with
  | none => True
  | some (p, s) => paid < p ∨ paid = p ∧ onN chosen 16 < onN s 16
/-- a set of debts that is looked at -/
noncomputable def lfS (ok : Int → Prop) (B : Bt) (owed paid chosen : Int) : Bt := @ite Bt (btS B paid chosen ∧ ok owed) (Classical.propDecidable _) (some (paid, chosen)) B
/-- all sets of the debts that may be, below n, in their order -/
noncomputable def gS (ok may : Int → Prop) (amt pr : Int → Int) : Nat → Bt → Int → Int → Int → Bt
  | 0, B, o, p, c => lfS ok B o p c
  | n + 1, B, o, p, c => @ite Bt (may n) (Classical.propDecidable _) (gS ok may amt pr n (gS ok may amt pr n B o p c) (o + amt n) (p + pr n) (c + ((2 ^ n : Nat) : Int))) (gS ok may amt pr n B o p c)
theorem gS_y {ok may : Int → Prop} {amt pr : Int → Int} {n : Nat} {B : Bt} {o p c : Int} (h : may n) : gS ok may amt pr (n + 1) B o p c = gS ok may amt pr n (gS ok may amt pr n B o p c) (o + amt n) (p + pr n) (c + ((2 ^ n : Nat) : Int)) := if_pos h
theorem gS_n {ok may : Int → Prop} {amt pr : Int → Int} {n : Nat} {B : Bt} {o p c : Int} (h : ¬ may n) : gS ok may amt pr (n + 1) B o p c = gS ok may amt pr n B o p c := if_neg h
/-- what is dearer already needn't be gone on with -/
theorem gS_cut {ok may : Int → Prop} {amt pr : Int → Int} {m : Nat} (hpr : ∀ i : Int, 0 ≤ i → i < m → 0 ≤ pr i) (hm : m ≤ 16) : ∀ (n : Nat) (B : Bt) (o p : Int) (c : Nat), n ≤ m → c % 2 ^ n = 0 → ¬ btS B p c → gS ok may amt pr n B o p c = B
  | 0, B, o, p, c, _, _, h => if_neg (fun q => h q.1)
  | n + 1, B, o, p, c, hn, hc, h => by
    have h1 := gS_cut (ok := ok) (may := may) (amt := amt) hpr hm n B o p c (by omega) (mod_lo hc (by omega)) h
    by_cases hy : may n
    · rw [gS_y hy, h1, show (c : Int) + ((2 ^ n : Nat) : Int) = ((c + 2 ^ n : Nat) : Int) by omega]
      refine gS_cut hpr hm n B _ _ (c + 2 ^ n) (by omega) ?_ (fun q => h ?_)
      · rw [Nat.add_mod_right]
        exact mod_lo hc (by omega)
      · have hp := hpr n (by omega) (by omega)
        have ho := onN_add hc 16
        rw [if_pos (by omega)] at ho
        rcases B with _ | ⟨bp, bs⟩
        · trivial
        · have q : p + pr n < bp ∨ p + pr n = bp ∧ onN ((c + 2 ^ n : Nat) : Int) 16 < onN bs 16 := q
          rw [ho] at q
          show p < bp ∨ p = bp ∧ onN (c : Int) 16 < onN bs 16
          omega
    · rw [gS_n hy, h1]
noncomputable def cnN (may : Int → Prop) : Nat → Nat
  | 0 => 0
  | n + 1 => cnN may n + @ite Nat (may n) (Classical.propDecidable _) 1 0
theorem cnN_y {may : Int → Prop} {n : Nat} (h : may n) : cnN may (n + 1) = cnN may n + 1 := by
  rw [cnN, if_pos h]
theorem cnN_n {may : Int → Prop} {n : Nat} (h : ¬ may n) : cnN may (n + 1) = cnN may n := by
  rw [cnN, if_neg h]
  rfl
theorem cnN_le {may : Int → Prop} : ∀ n : Nat, cnN may n ≤ n
  | 0 => Nat.le_refl _
  | n + 1 => by
    have := cnN_le (may := may) n
    by_cases c : may n
    · rw [cnN_y c]
      omega
    · rw [cnN_n c]
      omega
/-- what was found, in the class -/
def BtC (B : Bt) (μ : zMem) : Prop := match B with
  | none => μ 343 6 = 0
  | some (p, s) => μ 343 6 = 1 ∧ μ 343 7 = p ∧ μ 343 8 = s ∧ 0 ≤ s ∧ s < 65536
theorem fl_Th_74 : zFl "DebtDoors$Theft" 74 8 7 := ⟨_, rfl, by decide, (zTb_in 470 (by decide +kernel) (by decide +kernel)), rfl⟩
theorem nk_8_7 : zNk 8 7 = some 0 := rfl
theorem m_J_bitCount : Cond.static y_J_bitCount.1 ∈ zTb ∧ Cond.initialized y_J_bitCount.1.cls ∈ zTb ∧ Cond.code y_J_bitCount.1 y_J_bitCount.2.1 y_J_bitCount.2.2.1 y_J_bitCount.2.2.2 ∈ zTb ∧ (y_J_bitCount.1.cls ≠ "java/lang/invoke/MethodHandle" ∧ y_J_bitCount.1.cls ≠ "java/lang/invoke/VarHandle" ∧ (parseMethodDescriptor y_J_bitCount.1.desc).map (fun d => d.parameters.length) = some 1) ∧ y_J_bitCount.2.2.1 ≤ 20 :=
  ⟨(zTb_in 1041 (by decide +kernel) (by decide +kernel)), (zTb_in 158 (by decide +kernel) (by decide +kernel)), (zTb_in 1042 (by decide +kernel) (by decide +kernel)), by decide +kernel, by decide +kernel⟩
theorem ls_Th_83 : zLs "DebtDoors$Theft" 83 y_J_bitCount 1 := Or.inl ⟨(zTb_in 1187 (by decide +kernel) (by decide +kernel)), m_J_bitCount⟩
theorem fl_Th_77 : zFl "DebtDoors$Theft" 77 8 8 := ⟨_, rfl, by decide, (zTb_in 472 (by decide +kernel) (by decide +kernel)), rfl⟩
theorem nk_8_8 : zNk 8 8 = some 0 := rfl
def y_Th_isBetter : zMt := (⟨"DebtDoors$Theft", "isBetter", "(II)Z"⟩, prog_10_method_4_code, 3, some .boolean)
theorem d_Th_isBetter_0 : decode prog_10_method_4_code 0 = .ok (.iload_n 1, 1) := by decide +kernel
theorem d_Th_isBetter_1 : decode prog_10_method_4_code 1 = .ok (.aload_n 0, 1) := by decide +kernel
theorem d_Th_isBetter_2 : decode prog_10_method_4_code 2 = .ok (.getfield 74, 3) := by decide +kernel
theorem d_Th_isBetter_5 : decode prog_10_method_4_code 5 = .ok (.if_icmp .lt 25, 3) := by decide +kernel
theorem d_Th_isBetter_8 : decode prog_10_method_4_code 8 = .ok (.iload_n 1, 1) := by decide +kernel
theorem d_Th_isBetter_9 : decode prog_10_method_4_code 9 = .ok (.aload_n 0, 1) := by decide +kernel
theorem d_Th_isBetter_10 : decode prog_10_method_4_code 10 = .ok (.getfield 74, 3) := by decide +kernel
theorem d_Th_isBetter_13 : decode prog_10_method_4_code 13 = .ok (.if_icmp .ne 21, 3) := by decide +kernel
theorem d_Th_isBetter_16 : decode prog_10_method_4_code 16 = .ok (.iload_n 2, 1) := by decide +kernel
theorem d_Th_isBetter_17 : decode prog_10_method_4_code 17 = .ok (.invokestatic 83, 3) := by decide +kernel
theorem d_Th_isBetter_20 : decode prog_10_method_4_code 20 = .ok (.aload_n 0, 1) := by decide +kernel
theorem d_Th_isBetter_21 : decode prog_10_method_4_code 21 = .ok (.getfield 77, 3) := by decide +kernel
theorem d_Th_isBetter_24 : decode prog_10_method_4_code 24 = .ok (.invokestatic 83, 3) := by decide +kernel
theorem d_Th_isBetter_27 : decode prog_10_method_4_code 27 = .ok (.if_icmp .ge 7, 3) := by decide +kernel
theorem d_Th_isBetter_30 : decode prog_10_method_4_code 30 = .ok (.iconst 1, 1) := by decide +kernel
theorem d_Th_isBetter_31 : decode prog_10_method_4_code 31 = .ok (.goto 4, 3) := by decide +kernel
theorem d_Th_isBetter_34 : decode prog_10_method_4_code 34 = .ok (.iconst 0, 1) := by decide +kernel
theorem d_Th_isBetter_35 : decode prog_10_method_4_code 35 = .ok (.ireturn, 1) := by decide +kernel
def w_Th_isBetter {d : Nat} (hd : 2 ≤ d) := (show SS ("DebtDoors$Theft", prog_10_method_4_code, 3) (some .boolean) d 0 0 0 0 _ from (sRz (xE (rTb (rOr (mm := 8) (rJ2 (tgt := 30) j_lt (rIn 1 d_Th_isBetter_0 rfl) (rF 7 fl_Th_74 nk_8_7 (rAn 0 d_Th_isBetter_1 rfl) d_Th_isBetter_2 rfl) d_Th_isBetter_5 (by decide)) (rAnd (mm := 16) (rNot (rJ2 (tgt := 34) j_ne (rIn 1 d_Th_isBetter_8 rfl) (rF 7 fl_Th_74 nk_8_7 (rAn 0 d_Th_isBetter_9 rfl) d_Th_isBetter_10 rfl) d_Th_isBetter_13 (by decide))) (rNot (rJ2 (tgt := 34) j_ge (rS p_J_bitCount (Nat.le_trans (Nat.le_of_ble_eq_true rfl) hd) ls_Th_83 (rAi rA0 (rIn 2 d_Th_isBetter_16 rfl)) (by decide) d_Th_isBetter_17) (rS p_J_bitCount (Nat.le_trans (Nat.le_of_ble_eq_true rfl) hd) ls_Th_83 (rAi rA0 (rF 8 fl_Th_77 nk_8_8 (rAn 0 d_Th_isBetter_20 rfl) d_Th_isBetter_21 rfl)) (by decide) d_Th_isBetter_24) d_Th_isBetter_27 (by decide))))) (rGoE (p2 := 35) (rI d_Th_isBetter_30 rfl) d_Th_isBetter_31 (by decide)) (rI d_Th_isBetter_34 rfl))) d_Th_isBetter_35 rfl))
noncomputable def f_Th_isBetter : List zV → zMem → Int
  | [.inr (.inr (.inl q0)), .inl a, .inl b], μ => zbp (a < μ 343 7 ∨ a = μ 343 7 ∧ onN b 16 < onN (μ 343 8) 16)
  | _, _ => 0
def g_Th_isBetter : List zV → zMem → Prop
  | [.inr (.inr (.inl q0)), .inl a, .inl b], μ => q0 = 343 ∧ ((0 ≤ b ∧ b < 65536) ∧ 0 ≤ μ 343 8 ∧ μ 343 8 < 65536)
  | _, _ => False
theorem p_Th_isBetter : zPu y_Th_isBetter 2 f_Th_isBetter g_Th_isBetter := by
  intro as μ h
  unfold g_Th_isBetter at h
  split at h
  · next q0 a b =>
    obtain ⟨rfl, h⟩ := h
    refine zSp.ss [vr 343, vi a, vi b] rfl (w_Th_isBetter (Nat.le_refl _)) rfl rfl ?_
    (try simp only [zit_e, Bool.and_eq_true, Bool.or_eq_true, Bool.not_eq_true', Bool.and_eq_false_iff, Bool.or_eq_false_iff, Bool.not_eq_false', zbe, zdt, zdf, zb2_p, zbp_0, zbp_1, zbp_inj, zbp_01, Bool.true_eq_false, Bool.false_eq_true, true_and, and_true, Decidable.not_not, Classical.not_not, implies_true, List.nil_append, List.cons_append, List.append_assoc, Option.some.injEq, Sum.inl.injEq, zSw_c, zSw_n]); (try simp only [zit_e, Bool.and_eq_true, Bool.or_eq_true, Bool.not_eq_true', Bool.and_eq_false_iff, Bool.or_eq_false_iff, Bool.not_eq_false', zbe, zdt, zdf, zb2_p, zbp_0, zbp_1, zbp_inj, zbp_01, Bool.true_eq_false, Bool.false_eq_true, true_and, and_true, Decidable.not_not, Classical.not_not, implies_true, List.nil_append, List.cons_append, List.append_assoc, Option.some.injEq, Sum.inl.injEq, zSw_c, zSw_n, f_Th_isBetter, zc_343, f_J_bitCount, g_J_bitCount]); (try simp only [zi_cs, zi_c0, zii_cs, zii_c0, zl_cs, zl_c0, zll_cs, zll_c0, zr_cs, zr_c0, zrr_cs, zrr_c0, zxs_cs, zxs_c0, zxx_cs, zxx_c0, zfree_c0, zfree_c1, zfree_cs, zfree_cz, zlong_i, zlong_r, zlong_x, zset_0, zset_s, true_and, and_true, Option.some.injEq, Sum.inl.injEq, Sum.inr.injEq, zb2_p, zbp_0, zbp_1, zbp_inj, zbp_01, Nat.zero_add, Nat.reduceAdd, implies_true, List.nil_append, List.cons_append, List.append_assoc, Int.not_lt, Int.not_le, Decidable.not_not, Int.zero_add, Int.reduceLE, Int.reduceLT, Int.reduceEq, Int.reduceNe, Int.reduceAdd, Int.reduceSub, Int.reduceMul, Int.reduceNeg, Int.reduceToNat, Nat.reduceMul, Nat.reduceLT, Nat.reduceEqDiff, and_self, ite_true, ite_false, zx1, zx2, zRecv, List.length_cons, List.length_nil, ne_eq, not_true_eq_false, not_false_eq_true, true_or, or_true, or_false, false_or, and_false, false_and, zf01, zf10, reduceCtorEq, zSw_c, zSw_n, zm_r, zit_T, zit_F, false_implies, true_implies, f_Th_isBetter, zc_343, f_J_bitCount, g_J_bitCount])
    exact ⟨fun _ _ => h, (Classical.em _).symm⟩
  · exact h.elim
def TFr (w : Int → Int) (μ μ' : zMem) : Prop := zfc [325, 326, 327, 343] μ μ' ∧ (∀ j : Int, j ≠ 6 → j ≠ 7 → j ≠ 8 → μ' 343 j = μ 343 j) ∧ wK w (μ' 326)
theorem TFr.rf {w : Int → Int} {μ : zMem} (h : wK w (μ 326)) : TFr w μ μ := ⟨zfc.rf, fun _ _ _ _ => rfl, h⟩
theorem TFr.tr {w : Int → Int} {a b c : zMem} (h1 : TFr w a b) (h2 : TFr w b c) : TFr w a c := ⟨(h1.1.tr h2.1).mo (by simp), fun j p q r => (h2.2.1 j p q r).trans (h1.2.1 j p q r), h2.2.2⟩
theorem CF.tf {w : Int → Int} {a b : zMem} (h : CF w a b) : TFr w a b := ⟨h.1.mo (by simp), fun j _ _ _ => by rw [h.1 343 (by decide)], h.2⟩
/-- what a thief asks -/
noncomputable def thO (Z : Zt) (F : Option (List Cls)) (A : Lg) (w : Int → Int) (t h r : Int) : Int → Prop := fun o => r ≤ dpA Z F A w h t o (owL t h A.2.1)
def thM (A : Lg) (t h : Int) : Int → Prop := fun d => (dbt A d).1 = h ∧ (dbt A d).2.1 ≠ t
def thA (A : Lg) : Int → Int := fun d => (dbt A d).2.2.1
noncomputable def thP (Z : Zt) (F : Option (List Cls)) (A : Lg) (w : Int → Int) : Int → Int := fun d => odA Z F A w d 2
def ThC (may : Int → Prop) (pr : Int → Int) (t h r bk : Int) (len : Nat) (μ : zMem) : Prop := (μ 343 2 = t ∧ μ 343 3 = h ∧ μ 343 4 = r ∧ μ 343 5 = bk) ∧ ∀ i : Nat, i < len → may i → μ 344 (cnN may i : Int) = i ∧ μ 345 (cnN may i : Int) = pr i
theorem ThC.k {may : Int → Prop} {pr : Int → Int} {t h r bk : Int} {len : Nat} {μ μ' : zMem} {w : Int → Int} (hT : ThC may pr t h r bk len μ) (hF : TFr w μ μ') : ThC may pr t h r bk len μ' := by
  unfold ThC at *
  rw [hF.2.1 2 (by decide) (by decide) (by decide), hF.2.1 3 (by decide) (by decide) (by decide), hF.2.1 4 (by decide) (by decide) (by decide), hF.2.1 5 (by decide) (by decide) (by decide), hF.1 344 (by decide), hF.1 345 (by decide)]
  exact hT
theorem CTx.tf {μ μ' : zMem} {Z : Zt} {F : Option (List Cls)} {A : Lg} {w : Int → Int} (h : CTx μ Z F A w) (h1 : TFr w μ μ') : CTx μ' Z F A w := h.k (fun c hc => h1.1 c (by simp only [List.mem_cons, List.not_mem_nil, or_false]; omega)) h1.2.2
theorem BtC.i {B : Bt} {μ : zMem} (hB : BtC B μ) (p c : Int) : (¬ μ 343 6 = 0 → 0 ≤ μ 343 8 ∧ μ 343 8 < 65536) ∧ ((¬ μ 343 6 = 0 ∧ ¬ (p < μ 343 7 ∨ p = μ 343 7 ∧ onN c 16 < onN (μ 343 8) 16)) ↔ ¬ btS B p c) := by
  rcases B with _ | ⟨bp, bs⟩
  · have h : μ 343 6 = 0 := hB
    exact ⟨fun q => absurd h q, fun q => absurd h q.1, fun q => absurd trivial q⟩
  · obtain ⟨h1, h2, h3, h4⟩ : μ 343 6 = 1 ∧ μ 343 7 = bp ∧ μ 343 8 = bs ∧ 0 ≤ bs ∧ bs < 65536 := hB
    rw [h1, h2, h3]
    exact ⟨fun _ => h4, fun q => q.2, fun q => ⟨by decide, q⟩⟩
theorem BtC.k {B : Bt} {μ μ' : zMem} (hB : BtC B μ) (h : μ' 343 = μ 343) : BtC B μ' := by
  unfold BtC at *
  rw [h]
  exact hB
theorem fl_Th_43 : zFl "DebtDoors$Theft" 43 8 6 := ⟨_, rfl, by decide, (zTb_in 469 (by decide +kernel) (by decide +kernel)), rfl⟩
theorem nk_8_6 : zNk 8 6 = some 1 := rfl
theorem m_Th_isBetter : Cond.instanceMethod y_Th_isBetter.1 ∈ zTb ∧ Cond.selects y_Th_isBetter.1.cls y_Th_isBetter.1 y_Th_isBetter.1 ∈ zTb ∧ Cond.initialized y_Th_isBetter.1.cls ∈ zTb ∧ Cond.code y_Th_isBetter.1 y_Th_isBetter.2.1 y_Th_isBetter.2.2.1 y_Th_isBetter.2.2.2 ∈ zTb ∧ (y_Th_isBetter.1.cls ≠ "java/lang/invoke/MethodHandle" ∧ y_Th_isBetter.1.cls ≠ "java/lang/invoke/VarHandle" ∧ (parseMethodDescriptor y_Th_isBetter.1.desc).map (fun d => d.parameters.length) = some 2) ∧ y_Th_isBetter.2.2.1 ≤ 20 :=
  ⟨(zTb_in 1185 (by decide +kernel) (by decide +kernel)), (List.mem_filter.mpr ⟨List.mem_append_left _ (by decide +kernel), by decide +kernel⟩), (zTb_in 148 (by decide +kernel) (by decide +kernel)), (zTb_in 1186 (by decide +kernel) (by decide +kernel)), by decide +kernel, by decide +kernel⟩
theorem lv_Th_66 : zLv "DebtDoors$Theft" 66 y_Th_isBetter 2 8 := ⟨⟨(zTb_in 1183 (by decide +kernel) (by decide +kernel)), m_Th_isBetter.1, m_Th_isBetter.2.1, m_Th_isBetter.2.2⟩, _, rfl, rfl⟩
theorem lv_Th_70 : zLv "DebtDoors$Theft" 70 y_Ru_depth 5 7 := ⟨⟨(zTb_in 1188 (by decide +kernel) (by decide +kernel)), m_Ru_depth.1, m_Ru_depth.2.1, m_Ru_depth.2.2⟩, _, rfl, rfl⟩
theorem fl_Th_28 : zFl "DebtDoors$Theft" 28 8 3 := ⟨_, rfl, by decide, (zTb_in 466 (by decide +kernel) (by decide +kernel)), rfl⟩
theorem nk_8_3 : zNk 8 3 = some 0 := rfl
theorem fl_Th_24 : zFl "DebtDoors$Theft" 24 8 2 := ⟨_, rfl, by decide, (zTb_in 465 (by decide +kernel) (by decide +kernel)), rfl⟩
theorem nk_8_2 : zNk 8 2 = some 0 := rfl
theorem fl_Th_40 : zFl "DebtDoors$Theft" 40 8 5 := ⟨_, rfl, by decide, (zTb_in 468 (by decide +kernel) (by decide +kernel)), rfl⟩
theorem nk_8_5 : zNk 8 5 = some 0 := rfl
theorem fl_Th_31 : zFl "DebtDoors$Theft" 31 8 4 := ⟨_, rfl, by decide, (zTb_in 467 (by decide +kernel) (by decide +kernel)), rfl⟩
theorem nk_8_4 : zNk 8 4 = some 0 := rfl
theorem fp_8_6 : zFp 8 6 1 := ⟨_, rfl, rfl, rfl, by decide⟩
theorem fp_8_7 : zFp 8 7 0 := ⟨_, rfl, rfl, rfl, by decide⟩
theorem fp_8_8 : zFp 8 8 0 := ⟨_, rfl, rfl, rfl, by decide⟩
def y_Th_choose : zMt := (⟨"DebtDoors$Theft", "choose", "(LDebtDoors$Town;LDebtDoors$Rules;IIII)V"⟩, prog_10_method_3_code, 8, none)
theorem m_Th_choose : Cond.instanceMethod y_Th_choose.1 ∈ zTb ∧ Cond.selects y_Th_choose.1.cls y_Th_choose.1 y_Th_choose.1 ∈ zTb ∧ Cond.initialized y_Th_choose.1.cls ∈ zTb ∧ Cond.code y_Th_choose.1 y_Th_choose.2.1 y_Th_choose.2.2.1 y_Th_choose.2.2.2 ∈ zTb ∧ (y_Th_choose.1.cls ≠ "java/lang/invoke/MethodHandle" ∧ y_Th_choose.1.cls ≠ "java/lang/invoke/VarHandle" ∧ (parseMethodDescriptor y_Th_choose.1.desc).map (fun d => d.parameters.length) = some 6) ∧ y_Th_choose.2.2.1 ≤ 20 :=
  ⟨(zTb_in 1181 (by decide +kernel) (by decide +kernel)), (List.mem_filter.mpr ⟨List.mem_append_left _ (by decide +kernel), by decide +kernel⟩), (zTb_in 148 (by decide +kernel) (by decide +kernel)), (zTb_in 1182 (by decide +kernel) (by decide +kernel)), by decide +kernel, by decide +kernel⟩
theorem lv_Th_62 : zLv "DebtDoors$Theft" 62 y_Th_choose 6 8 := ⟨⟨(zTb_in 1179 (by decide +kernel) (by decide +kernel)), m_Th_choose.1, m_Th_choose.2.1, m_Th_choose.2.2⟩, _, rfl, rfl⟩
theorem fl_Th_80 : zFl "DebtDoors$Theft" 80 1 3 := ⟨_, rfl, by decide, (zTb_in 195 (by decide +kernel) (by decide +kernel)), rfl⟩
theorem fl_Th_18 : zFl "DebtDoors$Theft" 18 9 0 := ⟨_, rfl, by decide, (zTb_in 230 (by decide +kernel) (by decide +kernel)), rfl⟩
theorem nk_8_0 : zNk 8 0 = none := rfl
theorem nk_8_1 : zNk 8 1 = none := rfl
theorem d_Th_choose_0 : decode prog_10_method_3_code 0 = .ok (.aload_n 0, 1) := by decide +kernel
theorem d_Th_choose_1 : decode prog_10_method_3_code 1 = .ok (.getfield 43, 3) := by decide +kernel
theorem d_Th_choose_4 : decode prog_10_method_3_code 4 = .ok (.ifCond .eq 15, 3) := by decide +kernel
theorem d_Th_choose_7 : decode prog_10_method_3_code 7 = .ok (.aload_n 0, 1) := by decide +kernel
theorem d_Th_choose_8 : decode prog_10_method_3_code 8 = .ok (.iload 5, 2) := by decide +kernel
theorem d_Th_choose_10 : decode prog_10_method_3_code 10 = .ok (.iload 6, 2) := by decide +kernel
theorem d_Th_choose_12 : decode prog_10_method_3_code 12 = .ok (.invokevirtual 66, 3) := by decide +kernel
theorem d_Th_choose_15 : decode prog_10_method_3_code 15 = .ok (.ifCond .ne 4, 3) := by decide +kernel
theorem d_Th_choose_18 : decode prog_10_method_3_code 18 = .ok (.return_, 1) := by decide +kernel
theorem d_Th_choose_19 : decode prog_10_method_3_code 19 = .ok (.iload_n 3, 1) := by decide +kernel
theorem d_Th_choose_20 : decode prog_10_method_3_code 20 = .ok (.ifCond .lt 9, 3) := by decide +kernel
theorem d_Th_choose_23 : decode prog_10_method_3_code 23 = .ok (.iload_n 3, 1) := by decide +kernel
theorem d_Th_choose_24 : decode prog_10_method_3_code 24 = .ok (.bipush 16, 2) := by decide +kernel
theorem d_Th_choose_26 : decode prog_10_method_3_code 26 = .ok (.if_icmp .lt 47, 3) := by decide +kernel
theorem d_Th_choose_29 : decode prog_10_method_3_code 29 = .ok (.aload_n 2, 1) := by decide +kernel
theorem d_Th_choose_30 : decode prog_10_method_3_code 30 = .ok (.aload_n 1, 1) := by decide +kernel
theorem d_Th_choose_31 : decode prog_10_method_3_code 31 = .ok (.aload_n 0, 1) := by decide +kernel
theorem d_Th_choose_32 : decode prog_10_method_3_code 32 = .ok (.getfield 28, 3) := by decide +kernel
theorem d_Th_choose_35 : decode prog_10_method_3_code 35 = .ok (.aload_n 0, 1) := by decide +kernel
theorem d_Th_choose_36 : decode prog_10_method_3_code 36 = .ok (.getfield 24, 3) := by decide +kernel
theorem d_Th_choose_39 : decode prog_10_method_3_code 39 = .ok (.iload 4, 2) := by decide +kernel
theorem d_Th_choose_41 : decode prog_10_method_3_code 41 = .ok (.aload_n 0, 1) := by decide +kernel
theorem d_Th_choose_42 : decode prog_10_method_3_code 42 = .ok (.getfield 40, 3) := by decide +kernel
theorem d_Th_choose_45 : decode prog_10_method_3_code 45 = .ok (.invokevirtual 70, 3) := by decide +kernel
theorem d_Th_choose_48 : decode prog_10_method_3_code 48 = .ok (.aload_n 0, 1) := by decide +kernel
theorem d_Th_choose_49 : decode prog_10_method_3_code 49 = .ok (.getfield 31, 3) := by decide +kernel
theorem d_Th_choose_52 : decode prog_10_method_3_code 52 = .ok (.if_icmp .lt 20, 3) := by decide +kernel
theorem d_Th_choose_55 : decode prog_10_method_3_code 55 = .ok (.aload_n 0, 1) := by decide +kernel
theorem d_Th_choose_56 : decode prog_10_method_3_code 56 = .ok (.iconst 1, 1) := by decide +kernel
theorem d_Th_choose_57 : decode prog_10_method_3_code 57 = .ok (.putfield 43, 3) := by decide +kernel
theorem d_Th_choose_60 : decode prog_10_method_3_code 60 = .ok (.aload_n 0, 1) := by decide +kernel
theorem d_Th_choose_61 : decode prog_10_method_3_code 61 = .ok (.iload 5, 2) := by decide +kernel
theorem d_Th_choose_63 : decode prog_10_method_3_code 63 = .ok (.putfield 74, 3) := by decide +kernel
theorem d_Th_choose_66 : decode prog_10_method_3_code 66 = .ok (.aload_n 0, 1) := by decide +kernel
theorem d_Th_choose_67 : decode prog_10_method_3_code 67 = .ok (.iload 6, 2) := by decide +kernel
theorem d_Th_choose_69 : decode prog_10_method_3_code 69 = .ok (.putfield 77, 3) := by decide +kernel
theorem d_Th_choose_72 : decode prog_10_method_3_code 72 = .ok (.return_, 1) := by decide +kernel
theorem d_Th_choose_73 : decode prog_10_method_3_code 73 = .ok (.aload_n 0, 1) := by decide +kernel
theorem d_Th_choose_74 : decode prog_10_method_3_code 74 = .ok (.aload_n 1, 1) := by decide +kernel
theorem d_Th_choose_75 : decode prog_10_method_3_code 75 = .ok (.aload_n 2, 1) := by decide +kernel
theorem d_Th_choose_76 : decode prog_10_method_3_code 76 = .ok (.iload_n 3, 1) := by decide +kernel
theorem d_Th_choose_77 : decode prog_10_method_3_code 77 = .ok (.iconst 1, 1) := by decide +kernel
theorem d_Th_choose_78 : decode prog_10_method_3_code 78 = .ok (.isub, 1) := by decide +kernel
theorem d_Th_choose_79 : decode prog_10_method_3_code 79 = .ok (.iload 4, 2) := by decide +kernel
theorem d_Th_choose_81 : decode prog_10_method_3_code 81 = .ok (.iload 5, 2) := by decide +kernel
theorem d_Th_choose_83 : decode prog_10_method_3_code 83 = .ok (.iload 6, 2) := by decide +kernel
theorem d_Th_choose_85 : decode prog_10_method_3_code 85 = .ok (.invokevirtual 62, 3) := by decide +kernel
theorem d_Th_choose_88 : decode prog_10_method_3_code 88 = .ok (.aload_n 1, 1) := by decide +kernel
theorem d_Th_choose_89 : decode prog_10_method_3_code 89 = .ok (.getfield 18, 3) := by decide +kernel
theorem d_Th_choose_92 : decode prog_10_method_3_code 92 = .ok (.getfield 80, 3) := by decide +kernel
theorem d_Th_choose_95 : decode prog_10_method_3_code 95 = .ok (.aload_n 0, 1) := by decide +kernel
theorem d_Th_choose_96 : decode prog_10_method_3_code 96 = .ok (.getfield 9, 3) := by decide +kernel
theorem d_Th_choose_99 : decode prog_10_method_3_code 99 = .ok (.iload_n 3, 1) := by decide +kernel
theorem d_Th_choose_100 : decode prog_10_method_3_code 100 = .ok (.iaload, 1) := by decide +kernel
theorem d_Th_choose_101 : decode prog_10_method_3_code 101 = .ok (.iaload, 1) := by decide +kernel
theorem d_Th_choose_102 : decode prog_10_method_3_code 102 = .ok (.istore 7, 2) := by decide +kernel
theorem d_Th_choose_104 : decode prog_10_method_3_code 104 = .ok (.aload_n 0, 1) := by decide +kernel
theorem d_Th_choose_105 : decode prog_10_method_3_code 105 = .ok (.aload_n 1, 1) := by decide +kernel
theorem d_Th_choose_106 : decode prog_10_method_3_code 106 = .ok (.aload_n 2, 1) := by decide +kernel
theorem d_Th_choose_107 : decode prog_10_method_3_code 107 = .ok (.iload_n 3, 1) := by decide +kernel
theorem d_Th_choose_108 : decode prog_10_method_3_code 108 = .ok (.iconst 1, 1) := by decide +kernel
theorem d_Th_choose_109 : decode prog_10_method_3_code 109 = .ok (.isub, 1) := by decide +kernel
theorem d_Th_choose_110 : decode prog_10_method_3_code 110 = .ok (.iload 4, 2) := by decide +kernel
theorem d_Th_choose_112 : decode prog_10_method_3_code 112 = .ok (.iload 7, 2) := by decide +kernel
theorem d_Th_choose_114 : decode prog_10_method_3_code 114 = .ok (.iadd, 1) := by decide +kernel
theorem d_Th_choose_115 : decode prog_10_method_3_code 115 = .ok (.iload 5, 2) := by decide +kernel
theorem d_Th_choose_117 : decode prog_10_method_3_code 117 = .ok (.aload_n 0, 1) := by decide +kernel
theorem d_Th_choose_118 : decode prog_10_method_3_code 118 = .ok (.getfield 15, 3) := by decide +kernel
theorem d_Th_choose_121 : decode prog_10_method_3_code 121 = .ok (.iload_n 3, 1) := by decide +kernel
theorem d_Th_choose_122 : decode prog_10_method_3_code 122 = .ok (.iaload, 1) := by decide +kernel
theorem d_Th_choose_123 : decode prog_10_method_3_code 123 = .ok (.iadd, 1) := by decide +kernel
theorem d_Th_choose_124 : decode prog_10_method_3_code 124 = .ok (.iload 6, 2) := by decide +kernel
theorem d_Th_choose_126 : decode prog_10_method_3_code 126 = .ok (.iconst 1, 1) := by decide +kernel
theorem d_Th_choose_127 : decode prog_10_method_3_code 127 = .ok (.aload_n 0, 1) := by decide +kernel
theorem d_Th_choose_128 : decode prog_10_method_3_code 128 = .ok (.getfield 9, 3) := by decide +kernel
theorem d_Th_choose_131 : decode prog_10_method_3_code 131 = .ok (.iload_n 3, 1) := by decide +kernel
theorem d_Th_choose_132 : decode prog_10_method_3_code 132 = .ok (.iaload, 1) := by decide +kernel
theorem d_Th_choose_133 : decode prog_10_method_3_code 133 = .ok (.ishl, 1) := by decide +kernel
theorem d_Th_choose_134 : decode prog_10_method_3_code 134 = .ok (.ior, 1) := by decide +kernel
theorem d_Th_choose_135 : decode prog_10_method_3_code 135 = .ok (.invokevirtual 62, 3) := by decide +kernel
theorem d_Th_choose_138 : decode prog_10_method_3_code 138 = .ok (.return_, 1) := by decide +kernel
def w_Th_choose {d : Nat} (hd : 3 ≤ d) := (show SS ("DebtDoors$Theft", prog_10_method_3_code, 8) (none) d 0 0 0 0 _ from (sS (p1 := 19) (sIf (pn := 19) (tt := 18) (xC (rAnd (mm := 7) (rNot (rJ1 (tgt := 19) k_eq (rF 6 fl_Th_43 nk_8_6 (rAn 0 d_Th_choose_0 rfl) d_Th_choose_1 rfl) d_Th_choose_4 (by decide))) (rNot (rJ1 (tgt := 19) k_ne (rV p_Th_isBetter (Nat.le_trans (Nat.le_of_ble_eq_true rfl) hd) lv_Th_66 (rAi (rAi (rAr rA0 (rAn 0 d_Th_choose_7 rfl)) (rIl d_Th_choose_8)) (rIl d_Th_choose_10)) (by decide) d_Th_choose_12) d_Th_choose_15 (by decide))))) (sRv d_Th_choose_18 rfl)) (sS (p1 := 73) (sIf (pn := 73) (tt := 29) (xC (rOr (mm := 23) (rJ1 (tgt := 29) k_lt (rIn 3 d_Th_choose_19 rfl) d_Th_choose_20 (by decide)) (rNot (rJ2 (tgt := 73) j_lt (rIn 3 d_Th_choose_23 rfl) (rB d_Th_choose_24 rfl) d_Th_choose_26 (by decide))))) (sS (p1 := 72) (sIf (pn := 72) (tt := 55) (xNot (xJ2 (tgt := 72) j_lt (xV lv_Th_70 (xA (rAi (rAi (rAi (rAi (rAr (rAr rA0 (rAn 2 d_Th_choose_29 rfl)) (rAn 1 d_Th_choose_30 rfl)) (rF 3 fl_Th_28 nk_8_3 (rAn 0 d_Th_choose_31 rfl) d_Th_choose_32 rfl)) (rF 2 fl_Th_24 nk_8_2 (rAn 0 d_Th_choose_35 rfl) d_Th_choose_36 rfl)) (rIl d_Th_choose_39)) (rF 5 fl_Th_40 nk_8_5 (rAn 0 d_Th_choose_41 rfl) d_Th_choose_42 rfl))) (by decide) d_Th_choose_45) (xE (rF 4 fl_Th_31 nk_8_4 (rAn 0 d_Th_choose_48 rfl) d_Th_choose_49 rfl)) d_Th_choose_52 (by decide))) (sS (p1 := 60) (sP 6 fl_Th_43 fp_8_6 nk_8_6 (rAn 0 d_Th_choose_55 rfl) (xE (rI d_Th_choose_56 rfl)) d_Th_choose_57 rfl) (sS (p1 := 66) (sP 7 fl_Th_74 fp_8_7 nk_8_7 (rAn 0 d_Th_choose_60 rfl) (xE (rIl d_Th_choose_61)) d_Th_choose_63 rfl) (sP 8 fl_Th_77 fp_8_8 nk_8_8 (rAn 0 d_Th_choose_66 rfl) (xE (rIl d_Th_choose_67)) d_Th_choose_69 rfl)))) (sRv d_Th_choose_72 rfl))) (sS (p1 := 88) (sV (xVv lv_Th_62 (xA (rAi (rAi (rAi (rAi (rAr (rAr (rAr rA0 (rAn 0 d_Th_choose_73 rfl)) (rAn 1 d_Th_choose_74 rfl)) (rAn 2 d_Th_choose_75 rfl)) (r2 o_sub (rIn 3 d_Th_choose_76 rfl) (rI d_Th_choose_77 rfl) d_Th_choose_78)) (rIl d_Th_choose_79)) (rIl d_Th_choose_81)) (rIl d_Th_choose_83))) (by decide) d_Th_choose_85)) (sS (p1 := 104) (sI (xE (rIa (rFr fl_Th_80 nk_1_3 (rFr fl_Th_18 nk_9_0 (rAn 1 d_Th_choose_88 rfl) d_Th_choose_89) d_Th_choose_92) (rIa (rFr fl_Th_9 nk_8_0 (rAn 0 d_Th_choose_95 rfl) d_Th_choose_96) (rIn 3 d_Th_choose_99 rfl) d_Th_choose_100) d_Th_choose_101)) d_Th_choose_102 (by decide)) (sS (p1 := 138) (sV (xVv lv_Th_62 (xA (rAi (rAi (rAi (rAi (rAr (rAr (rAr rA0 (rAn 0 d_Th_choose_104 rfl)) (rAn 1 d_Th_choose_105 rfl)) (rAn 2 d_Th_choose_106 rfl)) (r2 o_sub (rIn 3 d_Th_choose_107 rfl) (rI d_Th_choose_108 rfl) d_Th_choose_109)) (r2 o_add (rIl d_Th_choose_110) (rIl d_Th_choose_112) d_Th_choose_114)) (r2 o_add (rIl d_Th_choose_115) (rIa (rFr fl_Th_15 nk_8_1 (rAn 0 d_Th_choose_117 rfl) d_Th_choose_118) (rIn 3 d_Th_choose_121 rfl) d_Th_choose_122) d_Th_choose_123)) (r2 o_or (rIl d_Th_choose_124) (r2 o_shl (rI d_Th_choose_126 rfl) (rIa (rFr fl_Th_9 nk_8_0 (rAn 0 d_Th_choose_127 rfl) d_Th_choose_128) (rIn 3 d_Th_choose_131 rfl) d_Th_choose_132) d_Th_choose_133) d_Th_choose_134))) (by decide) d_Th_choose_135)) (sRv d_Th_choose_138 rfl)))))))
theorem q_Th_choose {Z : Zt} {F : Option (List Cls)} {A : Lg} {w : Int → Int} {t h r : Int} (ht : 0 ≤ t ∧ t ≤ 6) (hh : 0 ≤ h ∧ h ≤ 6) : ∀ (n : Nat), n ≤ A.2.1.length → ∀ {d : Nat} (hd : 8 + n ≤ d) {μ : zMem} {owed paid : Int} {c : Nat} {B : Bt}, CTx μ Z F A w → BtC B μ → ThC (thM A t h) (thP Z F A w) t h r (owL t h A.2.1) A.2.1.length μ → (0 ≤ owed ∧ owed + 9999 * n ≤ 400000) → (0 ≤ paid ∧ paid + 9999 * n ≤ 400000) → c % 2 ^ n = 0 → c + 2 ^ n ≤ 65536 → zSp d 0 0 y_Th_choose zT0 [vr 343, vr 1, vr 324, vi ((cnN (thM A t h) n : Int) - 1), vi owed, vi paid, vi c] μ zT0 (fun q μ' => q = none ∧ BtC (gS (thO Z F A w t h r) (thM A t h) (thA A) (thP Z F A w) n B owed paid c) μ' ∧ TFr w μ μ')
  | 0, _, d, hd, μ, owed, paid, c, B, hC, hB, hT, h1, h2, h3, h4 => by
    refine zSp.ss [vr 343, vr 1, vr 324, vi ((cnN (thM A t h) 0 : Int) - 1), vi owed, vi paid, vi c, vx 0] rfl (w_Th_choose (Nat.le_trans (by decide) hd)) rfl rfl ?_
    (try simp only [zit_e, Bool.and_eq_true, Bool.or_eq_true, Bool.not_eq_true', Bool.and_eq_false_iff, Bool.or_eq_false_iff, Bool.not_eq_false', zbe, zdt, zdf, zb2_p, zbp_0, zbp_1, zbp_inj, zbp_01, Bool.true_eq_false, Bool.false_eq_true, true_and, and_true, Decidable.not_not, Classical.not_not, implies_true, List.nil_append, List.cons_append, List.append_assoc, Option.some.injEq, Sum.inl.injEq, zSw_c, zSw_n]); (try simp only [zit_e, Bool.and_eq_true, Bool.or_eq_true, Bool.not_eq_true', Bool.and_eq_false_iff, Bool.or_eq_false_iff, Bool.not_eq_false', zbe, zdt, zdf, zb2_p, zbp_0, zbp_1, zbp_inj, zbp_01, Bool.true_eq_false, Bool.false_eq_true, true_and, and_true, Decidable.not_not, Classical.not_not, implies_true, List.nil_append, List.cons_append, List.append_assoc, Option.some.injEq, Sum.inl.injEq, zSw_c, zSw_n, zc_343, zc_1, zc_2, zc_324, f_Th_isBetter, g_Th_isBetter]); (try simp only [zi_cs, zi_c0, zii_cs, zii_c0, zl_cs, zl_c0, zll_cs, zll_c0, zr_cs, zr_c0, zrr_cs, zrr_c0, zxs_cs, zxs_c0, zxx_cs, zxx_c0, zfree_c0, zfree_c1, zfree_cs, zfree_cz, zlong_i, zlong_r, zlong_x, zset_0, zset_s, true_and, and_true, Option.some.injEq, Sum.inl.injEq, Sum.inr.injEq, zb2_p, zbp_0, zbp_1, zbp_inj, zbp_01, Nat.zero_add, Nat.reduceAdd, implies_true, List.nil_append, List.cons_append, List.append_assoc, Int.not_lt, Int.not_le, Decidable.not_not, Int.zero_add, Int.reduceLE, Int.reduceLT, Int.reduceEq, Int.reduceNe, Int.reduceAdd, Int.reduceSub, Int.reduceMul, Int.reduceNeg, Int.reduceToNat, Nat.reduceMul, Nat.reduceLT, Nat.reduceEqDiff, and_self, ite_true, ite_false, zx1, zx2, zRecv, List.length_cons, List.length_nil, ne_eq, not_true_eq_false, not_false_eq_true, true_or, or_true, or_false, false_or, and_false, false_and, zf01, zf10, reduceCtorEq, zSw_c, zSw_n, zm_r, zit_T, zit_F, false_implies, true_implies, zc_343, zc_1, zc_2, zc_324, f_Th_isBetter, g_Th_isBetter])
    have hi := hB.i paid c
    have hw := hC.2.2.2.2.2
    rw [Nat.pow_zero] at h4
    refine ⟨fun q => ⟨by omega, hi.1 q⟩, ?_⟩
    refine zif (fun c1 => ?_) (fun c1 => ?_)
    · have : gS (thO Z F A w t h r) (thM A t h) (thA A) (thP Z F A w) 0 B owed paid c = B := if_neg (fun q => hi.2.mp c1 q.1)
      rw [this]
      exact ⟨hB, TFr.rf hw⟩
    refine zif (fun c2 => ?_) (fun c2 => absurd (Or.inl (show ((0 : Nat) : Int) - 1 < 0 by decide)) c2)
    have hb : btS B paid c := Classical.byContradiction (fun q => c1 (hi.2.mpr q))
    have b1 := owA (a := t) (b := h) hC.2.1
    rw [hT.1.1, hT.1.2.1, hT.1.2.2.2]
    refine zCw.use (q_C_depth (d := 6) (by decide) hC hh ht (by omega) (by omega)) (by omega) (fun q μ2 e => ?_)
    obtain ⟨rfl, hF⟩ := e
    have e343 : μ2 343 = μ 343 := hF.1 343 (by decide)
    refine ⟨_, rfl, ?_⟩
    rw [e343, hT.1.2.2.1]
    refine zif (fun c3 => ?_) (fun c3 => ?_)
    · have : gS (thO Z F A w t h r) (thM A t h) (thA A) (thP Z F A w) 0 B owed paid c = some (paid, (c : Int)) := if_pos ⟨hb, c3⟩
      rw [this]
      refine ⟨⟨by (repeat rw [zm_o (by omega)]); rw [zm_s], by (repeat rw [zm_o (by omega)]); rw [zm_s], by rw [zm_s], by omega, by omega⟩, ?_, fun j p q s => ?_, ?_⟩
      · exact ((hF.tf.1.zm (by decide)).zm (by decide)).zm (by decide)
      · (repeat rw [zm_o (by omega)])
        exact hF.tf.2.1 j p q s
      · rw [zm_off _ (by decide), zm_off _ (by decide), zm_off _ (by decide)]
        exact hF.2
    · have : gS (thO Z F A w t h r) (thM A t h) (thA A) (thP Z F A w) 0 B owed paid c = B := if_neg (fun q => c3 q.2)
      rw [this]
      exact ⟨hB.k e343, hF.tf⟩
  | n + 1, hn, d, hd, μ, owed, paid, c, B, hC, hB, hT, h1, h2, h3, h4 => by
    by_cases hm : thM A t h n
    · refine zSp.ss [vr 343, vr 1, vr 324, vi ((cnN (thM A t h) (n + 1) : Int) - 1), vi owed, vi paid, vi c, vx 0] rfl (w_Th_choose (Nat.le_trans (by omega) hd)) rfl rfl ?_
      (try simp only [zit_e, Bool.and_eq_true, Bool.or_eq_true, Bool.not_eq_true', Bool.and_eq_false_iff, Bool.or_eq_false_iff, Bool.not_eq_false', zbe, zdt, zdf, zb2_p, zbp_0, zbp_1, zbp_inj, zbp_01, Bool.true_eq_false, Bool.false_eq_true, true_and, and_true, Decidable.not_not, Classical.not_not, implies_true, List.nil_append, List.cons_append, List.append_assoc, Option.some.injEq, Sum.inl.injEq, zSw_c, zSw_n]); (try simp only [zit_e, Bool.and_eq_true, Bool.or_eq_true, Bool.not_eq_true', Bool.and_eq_false_iff, Bool.or_eq_false_iff, Bool.not_eq_false', zbe, zdt, zdf, zb2_p, zbp_0, zbp_1, zbp_inj, zbp_01, Bool.true_eq_false, Bool.false_eq_true, true_and, and_true, Decidable.not_not, Classical.not_not, implies_true, List.nil_append, List.cons_append, List.append_assoc, Option.some.injEq, Sum.inl.injEq, zSw_c, zSw_n, zc_343, zc_1, zc_2, zc_324, f_Th_isBetter, g_Th_isBetter]); (try simp only [zi_cs, zi_c0, zii_cs, zii_c0, zl_cs, zl_c0, zll_cs, zll_c0, zr_cs, zr_c0, zrr_cs, zrr_c0, zxs_cs, zxs_c0, zxx_cs, zxx_c0, zfree_c0, zfree_c1, zfree_cs, zfree_cz, zlong_i, zlong_r, zlong_x, zset_0, zset_s, true_and, and_true, Option.some.injEq, Sum.inl.injEq, Sum.inr.injEq, zb2_p, zbp_0, zbp_1, zbp_inj, zbp_01, Nat.zero_add, Nat.reduceAdd, implies_true, List.nil_append, List.cons_append, List.append_assoc, Int.not_lt, Int.not_le, Decidable.not_not, Int.zero_add, Int.reduceLE, Int.reduceLT, Int.reduceEq, Int.reduceNe, Int.reduceAdd, Int.reduceSub, Int.reduceMul, Int.reduceNeg, Int.reduceToNat, Nat.reduceMul, Nat.reduceLT, Nat.reduceEqDiff, and_self, ite_true, ite_false, zx1, zx2, zRecv, List.length_cons, List.length_nil, ne_eq, not_true_eq_false, not_false_eq_true, true_or, or_true, or_false, false_or, and_false, false_and, zf01, zf10, reduceCtorEq, zSw_c, zSw_n, zm_r, zit_T, zit_F, false_implies, true_implies, zc_343, zc_1, zc_2, zc_324, f_Th_isBetter, g_Th_isBetter])
      have hi := hB.i paid c
      have hw := hC.2.2.2.2.2
      have h16 := hC.2.1.2.1.1
      have hle := cnN_le (may := thM A t h) n
      have hp1 : 2 ^ n < 2 ^ (n + 1) := Nat.pow_lt_pow_right (by decide) (by omega)
      have hpp : 2 ^ (n + 1) = 2 * 2 ^ n := by rw [Nat.pow_succ, Nat.mul_comm]
      have hpos : 1 ≤ 2 ^ n := Nat.one_le_two_pow
      have e1 : ((cnN (thM A t h) (n + 1) : Nat) : Int) - 1 = (cnN (thM A t h) n : Int) := by rw [cnN_y hm]; omega
      have hpr : ∀ i : Int, 0 ≤ i → i < (A.2.1.length : Int) → 0 ≤ thP Z F A w i ∧ thP Z F A w i ≤ 9999 := fun i x y => by
        have o := dbt_o hC.2.1 x y
        have := odS_in (W := wdD Z A w (dbt A i)) (F := F) (kind := 2) (m := (dbt A i).2.2.1) (by have := o.2.2.2.1; omega)
        exact this
      refine ⟨fun q => ⟨by omega, hi.1 q⟩, ?_⟩
      refine zif (fun c1 => ?_) (fun c1 => ?_)
      · rw [gS_cut (fun i x y => (hpr i x y).1) h16 (n + 1) B owed paid c (by omega) h3 (hi.2.mp c1)]
        exact ⟨hB, TFr.rf hw⟩
      rw [e1]
      refine zif (fun c2 => absurd c2 (by omega)) (fun c2 => ?_)
      refine ⟨zI_s (by omega) (by omega), ?_⟩
      refine zCw.use (q_Th_choose ht hh n (by omega) (d := 8 + n) (Nat.le_refl _) hC hB hT ⟨h1.1, by omega⟩ ⟨h2.1, by omega⟩ (mod_lo h3 (by omega)) (by omega)) (by omega) (fun q μ2 e => ?_)
      obtain ⟨rfl, hB2, hF⟩ := e
      have hC2 := hC.tf hF
      have hT2 := hT.k hF
      obtain ⟨t1, t2⟩ := hT2.2 n (by omega) hm
      obtain ⟨e5, e6⟩ := hC2.e (k := n) (by omega) (by omega)
      have e7 : μ2 6 (n : Int) = thA A n := congrArg (fun x => x.2.2.1) e5
      have e8 : 1 ≤ thA A n ∧ thA A n ≤ 9999 := e6.2.2.2.1
      have e9 := hpr n (by omega) (by omega)
      have eo : zor (c : Int) (zshl 1 (n : Int)) = ((c + 2 ^ n : Nat) : Int) := by
        rw [zshl_n (by omega), zor_n (by omega) (by omega), or_add h3]
      rw [t1, t2, e7, eo]
      refine ⟨rfl, ⟨by omega, by omega, by omega⟩, ⟨⟨⟨zI_s (by omega) (by omega), zI_s (by omega) (by omega)⟩, by omega, zI_s (by omega) (by omega)⟩, by omega⟩, ?_⟩
      refine zCw.use (q_Th_choose ht hh n (by omega) (d := 8 + n) (Nat.le_refl _) hC2 hB2 hT2 ⟨by omega, by omega⟩ ⟨by omega, by omega⟩ (by rw [Nat.add_mod_right]; exact mod_lo h3 (by omega)) (by omega)) (by omega) (fun q μ3 e => ?_)
      obtain ⟨rfl, hB3, hF3⟩ := e
      refine ⟨rfl, ?_, hF.tr hF3⟩
      rw [gS_y hm]
      exact hB3
    · rw [cnN_n hm, gS_n hm]
      exact q_Th_choose ht hh n (by omega) (by omega) hC hB hT ⟨h1.1, by omega⟩ ⟨h2.1, by omega⟩ (mod_lo h3 (by omega)) (by rw [Nat.pow_succ] at h4; omega)

