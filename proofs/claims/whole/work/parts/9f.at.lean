/-! what is told of debts, with the law -/
def dbt (A : Lg) (k : Int) : D4 := gL (0, 0, 0, 0) A.2.1 k
theorem CTx.e {μ : zMem} {Z : Zt} {F : Option (List Cls)} {A : Lg} {w : Int → Int} (h : CTx μ Z F A w) {k : Int} (h0 : 0 ≤ k) (h1 : k < (A.2.1.length : Int)) : fD μ k = dbt A k ∧ okd (dbt A k) := by
  have hd := h.d
  have e : fD μ k = dbt A k := by
    unfold dbt
    rw [← hd.1]
    unfold dbD
    rw [gL_tL h0 (by omega)]
  exact ⟨e, e ▸ hd.2.2.2.1.2 k h0 (by omega)⟩
theorem MTx.e {μ : zMem} {Z : Zt} {F : Option (List Cls)} {A : Lg} {w : Int → Int} (h : MTx μ Z F A w) {k : Int} (h0 : 0 ≤ k) (h1 : k < (A.2.1.length : Int)) : fM μ k = dbt A k ∧ okd (dbt A k) := by
  have hd := h.d
  have e : fM μ k = dbt A k := by
    unfold dbt
    rw [← hd.1]
    unfold dbM
    rw [gL_tL h0 (by omega)]
  exact ⟨e, e ▸ hd.2.2.2.1.2 k h0 (by omega)⟩
noncomputable def wdD (Z : Zt) (A : Lg) (w : Int → Int) (x : D4) : Int → Int := fillW x.1 x.2.1 (owL x.1 x.2.1 A.2.1) (owL x.2.1 x.1 A.2.1) (Z.2.1 x.1) (Z.2.2.1 x.1) x.2.2.1 (A.2.2 - x.2.2.2) A.2.2 Z.2.2.2 w
/-- how the k-th debt grows (1), for what it is sold (2) -/
noncomputable def odA (Z : Zt) (F : Option (List Cls)) (A : Lg) (w : Int → Int) (k kind : Int) : Int := odS (wdD Z A w (dbt A k)) F kind (dbt A k).2.2.1
theorem odS_in {W : Int → Int} {F : Option (List Cls)} {kind m : Int} (hm : 0 ≤ m ∧ m ≤ 9999) : 0 ≤ odS W F kind m ∧ odS W F kind m ≤ (if kind = 1 then 99 else 9999) := by
  have hd : 0 ≤ odD kind m ∧ odD kind m ≤ (if kind = 1 then 99 else 9999) := by
    unfold odD
    split <;> omega
  unfold odS
  cases F with
  | none => exact hd
  | some cls =>
    show 0 ≤ tlV _ _ (lstT W kind cls) ∧ tlV _ _ (lstT W kind cls) ≤ _
    cases lstT W kind cls with
    | none => exact hd
    | some s =>
      show 0 ≤ clp _ s ∧ clp _ s ≤ _
      unfold clp
      repeat' split
      all_goals omega
theorem wdD_b {Z : Zt} {A : Lg} {w : Int → Int} {x : D4} (hZ : okZ Z) (hA : okA A) (hw : bW w) (hx : okd x) : bW (wdD Z A w x) := by
  have hz := hZ.2.1 x.1 hx.1.1 hx.1.2
  have hm := hZ.2.2
  have hd := hA.2.2
  have b1 := owA (a := x.1) (b := x.2.1) hA
  have b2 := owA (a := x.2.1) (b := x.1) hA
  obtain ⟨x1, x2, x3, x4, x5⟩ := hx
  exact fillW_b (X := fun x => -1000000 ≤ x ∧ x ≤ 1000000) ⟨by omega, by omega, by omega, by omega, by omega, by omega, by omega, by omega, by omega, by omega⟩ hw
theorem q_C_ofDebt {d : Nat} (hd : 6 ≤ d) {μ : zMem} {Z : Zt} {F : Option (List Cls)} {A : Lg} {w : Int → Int} {k kind : Int} (h : CTx μ Z F A w) (h0 : 0 ≤ k) (h1 : k < (A.2.1.length : Int)) (hk : kind = 1 ∨ kind = 2) : zSp d 0 0 y_Ru_ofDebt zT0 [vr 324, vr 1, vi k, vi kind] μ zT0 (fun r μ' => r = some (vi (odA Z F A w k kind)) ∧ CF w μ μ') := by
  have hd1 := h.d
  obtain ⟨e1, e2⟩ := h.e h0 h1
  have e4 : (μ 4 k = (dbt A k).1 ∧ μ 5 k = (dbt A k).2.1) ∧ μ 6 k = (dbt A k).2.2.1 ∧ μ 7 k = (dbt A k).2.2.2 := ⟨⟨congrArg (fun x => x.1) e1, congrArg (fun x => x.2.1) e1⟩, congrArg (fun x => x.2.2.1) e1, congrArg (fun x => x.2.2.2) e1⟩
  obtain ⟨hZ, hA, ⟨n1, n2, n3⟩, e, f, g⟩ := h
  have hro := n2 (dbt A k).1 e2.1.1 e2.1.2
  have hb : bW (wdD Z A (μ 326) (dbt A k)) := wdD_b hZ hA g.2 e2
  have hE : wdD Z A (μ 326) (dbt A k) = wdD Z A w (dbt A k) := fillW_E g.1
  obtain ⟨-, -, -, -, o5⟩ := e2
  refine (q_Ru_ofDebt hd (F := F) (W := wdD Z A w (dbt A k)) hd1.2.2.2.1 ⟨h0, by omega⟩ hk f ?_ (WB_b (hE ▸ hb)) (by rw [hd1.2.1]; exact hA.2.2) (by rw [e4.2.2]; omega)).imp (fun r μ' e => ?_)
  · rw [← hE, e4.1.1, e4.1.2, e4.2.1, e4.2.2, hro.1, hro.2, hd1.1, hd1.2.1, n3]
    rfl
  · obtain ⟨rfl, ⟨w2, p1, p2, p3⟩, p4⟩ := e
    rw [e4.2.1]
    refine ⟨rfl, p4, ?_⟩
    rw [p1]
    by_cases c : F = none
    · rw [p2 c]
      exact g
    · rw [p3 c, ← hE]
      refine ⟨?_, hb⟩
      rw [hE]
      exact fillW_o
theorem MTx.w {μ : zMem} {Z : Zt} {F : Option (List Cls)} {A : Lg} {w : Int → Int} (h : MTx μ Z F A w) {k : Int} (h0 : 0 ≤ k) (h1 : k < (A.2.1.length : Int)) : wdD Z A w (dbt A k) = fillW (μ 357 (7 + 4 * k)) (μ 357 (7 + 4 * k + 1)) (owL (μ 357 (7 + 4 * k)) (μ 357 (7 + 4 * k + 1)) (dbM μ)) (owL (μ 357 (7 + 4 * k + 1)) (μ 357 (7 + 4 * k)) (dbM μ)) (μ 357 (73 + 2 * μ 357 (7 + 4 * k))) (μ 357 (74 + 2 * μ 357 (7 + 4 * k))) (μ 357 (7 + 4 * k + 2)) (μ 357 72 - μ 357 (7 + 4 * k + 3)) (μ 357 72) (μ 357 151) w := by
  have hd1 := h.d
  obtain ⟨e1, e2⟩ := h.e h0 h1
  have e4 : (μ 357 (7 + 4 * k) = (dbt A k).1 ∧ μ 357 (7 + 4 * k + 1) = (dbt A k).2.1) ∧ μ 357 (7 + 4 * k + 2) = (dbt A k).2.2.1 ∧ μ 357 (7 + 4 * k + 3) = (dbt A k).2.2.2 := ⟨⟨congrArg (fun x => x.1) e1, congrArg (fun x => x.2.1) e1⟩, congrArg (fun x => x.2.2.1) e1, congrArg (fun x => x.2.2.2) e1⟩
  obtain ⟨hZ, hA, ⟨n1, n2, n3⟩, e, f, g⟩ := h
  have hro := n2 (dbt A k).1 e2.1.1 e2.1.2
  rw [e4.1.1, e4.1.2, e4.2.1, e4.2.2, hro.1, hro.2, hd1.1, hd1.2.1, n3]
  rfl
theorem q_R_growsBy {d : Nat} (hd : 48 ≤ d) {μ : zMem} {Z : Zt} {F : Option (List Cls)} {A : Lg} {w : Int → Int} {k : Int} (h : MTx μ Z F A w) (h0 : 0 ≤ k) (h1 : k < (A.2.1.length : Int)) : zSp d 0 0 y_M_growsBy zT0 [vr 355, vi k] μ zT0 (fun r μ' => r = some (vi (odA Z F A w k 1)) ∧ MF μ μ') := by
  have hd1 := h.d
  obtain ⟨e1, e2⟩ := h.e h0 h1
  have e6 : μ 357 (7 + 4 * k + 2) = (dbt A k).2.2.1 := congrArg (fun x => x.2.2.1) e1
  refine (q_M_growsBy hd (F := F) (W := wdD Z A w (dbt A k)) hd1.2.2.2.1 ⟨h0, by omega⟩ (by rw [hd1.2.1]; exact h.2.1.2.2) h.2.2.2.2.1 ⟨w, h.w h0 h1⟩ (wdD_b h.1 h.2.1 h.2.2.2.2.2 e2)).imp (fun r μ' e => ?_)
  rw [e6] at e
  exact ⟨e.1, e.2.1, e.2.2⟩
theorem q_R_soldFor {d : Nat} (hd : 48 ≤ d) {μ : zMem} {Z : Zt} {F : Option (List Cls)} {A : Lg} {w : Int → Int} {k : Int} (h : MTx μ Z F A w) (h0 : 0 ≤ k) (h1 : k < (A.2.1.length : Int)) : zSp d 0 0 y_M_soldFor zT0 [vr 355, vi k] μ zT0 (fun r μ' => r = some (vi (odA Z F A w k 2)) ∧ MF μ μ') := by
  have hd1 := h.d
  obtain ⟨e1, e2⟩ := h.e h0 h1
  have e6 : μ 357 (7 + 4 * k + 2) = (dbt A k).2.2.1 := congrArg (fun x => x.2.2.1) e1
  refine (q_M_soldFor hd (F := F) (W := wdD Z A w (dbt A k)) hd1.2.2.2.1 ⟨h0, by omega⟩ (by rw [hd1.2.1]; exact h.2.1.2.2) h.2.2.2.2.1 ⟨w, h.w h0 h1⟩ (wdD_b h.1 h.2.1 h.2.2.2.2.2 e2)).imp (fun r μ' e => ?_)
  rw [e6] at e
  exact ⟨e.1, e.2.1, e.2.2⟩
theorem m_Le_has : Cond.instanceMethod y_Le_has.1 ∈ zTb ∧ Cond.selects y_Le_has.1.cls y_Le_has.1 y_Le_has.1 ∈ zTb ∧ Cond.initialized y_Le_has.1.cls ∈ zTb ∧ Cond.code y_Le_has.1 y_Le_has.2.1 y_Le_has.2.2.1 y_Le_has.2.2.2 ∈ zTb ∧ (y_Le_has.1.cls ≠ "java/lang/invoke/MethodHandle" ∧ y_Le_has.1.cls ≠ "java/lang/invoke/VarHandle" ∧ (parseMethodDescriptor y_Le_has.1.desc).map (fun d => d.parameters.length) = some 1) ∧ y_Le_has.2.2.1 ≤ 20 :=
  ⟨(zTb_in 650 (by decide +kernel) (by decide +kernel)), (zTb_in 651 (by decide +kernel) (by decide +kernel)), (zTb_in 141 (by decide +kernel) (by decide +kernel)), (zTb_in 652 (by decide +kernel) (by decide +kernel)), by decide +kernel, by decide +kernel⟩
theorem lv_D_156 : zLv "DebtDoors" 156 y_Le_has 1 1 := ⟨⟨(zTb_in 649 (by decide +kernel) (by decide +kernel)), m_Le_has.1, m_Le_has.2.1, m_Le_has.2.2⟩, _, rfl, rfl⟩
theorem m_Ru_ofDebt : Cond.instanceMethod y_Ru_ofDebt.1 ∈ zTb ∧ Cond.selects y_Ru_ofDebt.1.cls y_Ru_ofDebt.1 y_Ru_ofDebt.1 ∈ zTb ∧ Cond.initialized y_Ru_ofDebt.1.cls ∈ zTb ∧ Cond.code y_Ru_ofDebt.1 y_Ru_ofDebt.2.1 y_Ru_ofDebt.2.2.1 y_Ru_ofDebt.2.2.2 ∈ zTb ∧ (y_Ru_ofDebt.1.cls ≠ "java/lang/invoke/MethodHandle" ∧ y_Ru_ofDebt.1.cls ≠ "java/lang/invoke/VarHandle" ∧ (parseMethodDescriptor y_Ru_ofDebt.1.desc).map (fun d => d.parameters.length) = some 3) ∧ y_Ru_ofDebt.2.2.1 ≤ 20 :=
  ⟨(zTb_in 654 (by decide +kernel) (by decide +kernel)), (zTb_in 655 (by decide +kernel) (by decide +kernel)), (zTb_in 144 (by decide +kernel) (by decide +kernel)), (zTb_in 656 (by decide +kernel) (by decide +kernel)), by decide +kernel, by decide +kernel⟩
theorem lv_D_169 : zLv "DebtDoors" 169 y_Ru_ofDebt 3 7 := ⟨⟨(zTb_in 653 (by decide +kernel) (by decide +kernel)), m_Ru_ofDebt.1, m_Ru_ofDebt.2.1, m_Ru_ofDebt.2.2⟩, _, rfl, rfl⟩
theorem fl_D_166 : zFl "DebtDoors" 166 1 4 := ⟨_, rfl, by decide, (zTb_in 200 (by decide +kernel) (by decide +kernel)), rfl⟩
theorem fl_D_163 : zFl "DebtDoors" 163 1 3 := ⟨_, rfl, by decide, (zTb_in 197 (by decide +kernel) (by decide +kernel)), rfl⟩
theorem fl_D_160 : zFl "DebtDoors" 160 1 2 := ⟨_, rfl, by decide, (zTb_in 193 (by decide +kernel) (by decide +kernel)), rfl⟩
theorem fl_D_157 : zFl "DebtDoors" 157 1 1 := ⟨_, rfl, by decide, (zTb_in 188 (by decide +kernel) (by decide +kernel)), rfl⟩
def y_D_at : zMt := (⟨"DebtDoors", "at", "(II)I"⟩, prog_1_method_8_code, 4, some .int)
theorem d_D_at_0 : decode prog_1_method_8_code 0 = .ok (.aload_n 0, 1) := by decide +kernel
theorem d_D_at_1 : decode prog_1_method_8_code 1 = .ok (.getfield 12, 3) := by decide +kernel
theorem d_D_at_4 : decode prog_1_method_8_code 4 = .ok (.getfield 115, 3) := by decide +kernel
theorem d_D_at_7 : decode prog_1_method_8_code 7 = .ok (.astore_n 3, 1) := by decide +kernel
theorem d_D_at_8 : decode prog_1_method_8_code 8 = .ok (.aload_n 3, 1) := by decide +kernel
theorem d_D_at_9 : decode prog_1_method_8_code 9 = .ok (.iload_n 1, 1) := by decide +kernel
theorem d_D_at_10 : decode prog_1_method_8_code 10 = .ok (.invokevirtual 156, 3) := by decide +kernel
theorem d_D_at_13 : decode prog_1_method_8_code 13 = .ok (.ifCond .ne 5, 3) := by decide +kernel
theorem d_D_at_16 : decode prog_1_method_8_code 16 = .ok (.iconst (-1), 1) := by decide +kernel
theorem d_D_at_17 : decode prog_1_method_8_code 17 = .ok (.ireturn, 1) := by decide +kernel
theorem d_D_at_18 : decode prog_1_method_8_code 18 = .ok (.iload_n 2, 1) := by decide +kernel
theorem d_D_at_19 : decode prog_1_method_8_code 19 = .ok (.tableswitch 93 0 5 #[37, 44, 51, 58, 65, 79], 37) := by decide +kernel
theorem d_D_at_56 : decode prog_1_method_8_code 56 = .ok (.aload_n 3, 1) := by decide +kernel
theorem d_D_at_57 : decode prog_1_method_8_code 57 = .ok (.getfield 157, 3) := by decide +kernel
theorem d_D_at_60 : decode prog_1_method_8_code 60 = .ok (.iload_n 1, 1) := by decide +kernel
theorem d_D_at_61 : decode prog_1_method_8_code 61 = .ok (.iaload, 1) := by decide +kernel
theorem d_D_at_62 : decode prog_1_method_8_code 62 = .ok (.ireturn, 1) := by decide +kernel
theorem d_D_at_63 : decode prog_1_method_8_code 63 = .ok (.aload_n 3, 1) := by decide +kernel
theorem d_D_at_64 : decode prog_1_method_8_code 64 = .ok (.getfield 160, 3) := by decide +kernel
theorem d_D_at_67 : decode prog_1_method_8_code 67 = .ok (.iload_n 1, 1) := by decide +kernel
theorem d_D_at_68 : decode prog_1_method_8_code 68 = .ok (.iaload, 1) := by decide +kernel
theorem d_D_at_69 : decode prog_1_method_8_code 69 = .ok (.ireturn, 1) := by decide +kernel
theorem d_D_at_70 : decode prog_1_method_8_code 70 = .ok (.aload_n 3, 1) := by decide +kernel
theorem d_D_at_71 : decode prog_1_method_8_code 71 = .ok (.getfield 163, 3) := by decide +kernel
theorem d_D_at_74 : decode prog_1_method_8_code 74 = .ok (.iload_n 1, 1) := by decide +kernel
theorem d_D_at_75 : decode prog_1_method_8_code 75 = .ok (.iaload, 1) := by decide +kernel
theorem d_D_at_76 : decode prog_1_method_8_code 76 = .ok (.ireturn, 1) := by decide +kernel
theorem d_D_at_77 : decode prog_1_method_8_code 77 = .ok (.aload_n 3, 1) := by decide +kernel
theorem d_D_at_78 : decode prog_1_method_8_code 78 = .ok (.getfield 166, 3) := by decide +kernel
theorem d_D_at_81 : decode prog_1_method_8_code 81 = .ok (.iload_n 1, 1) := by decide +kernel
theorem d_D_at_82 : decode prog_1_method_8_code 82 = .ok (.iaload, 1) := by decide +kernel
theorem d_D_at_83 : decode prog_1_method_8_code 83 = .ok (.ireturn, 1) := by decide +kernel
theorem d_D_at_84 : decode prog_1_method_8_code 84 = .ok (.aload_n 0, 1) := by decide +kernel
theorem d_D_at_85 : decode prog_1_method_8_code 85 = .ok (.getfield 51, 3) := by decide +kernel
theorem d_D_at_88 : decode prog_1_method_8_code 88 = .ok (.aload_n 0, 1) := by decide +kernel
theorem d_D_at_89 : decode prog_1_method_8_code 89 = .ok (.getfield 12, 3) := by decide +kernel
theorem d_D_at_92 : decode prog_1_method_8_code 92 = .ok (.iload_n 1, 1) := by decide +kernel
theorem d_D_at_93 : decode prog_1_method_8_code 93 = .ok (.iconst 2, 1) := by decide +kernel
theorem d_D_at_94 : decode prog_1_method_8_code 94 = .ok (.invokevirtual 169, 3) := by decide +kernel
theorem d_D_at_97 : decode prog_1_method_8_code 97 = .ok (.ireturn, 1) := by decide +kernel
theorem d_D_at_98 : decode prog_1_method_8_code 98 = .ok (.aload_n 0, 1) := by decide +kernel
theorem d_D_at_99 : decode prog_1_method_8_code 99 = .ok (.getfield 51, 3) := by decide +kernel
theorem d_D_at_102 : decode prog_1_method_8_code 102 = .ok (.aload_n 0, 1) := by decide +kernel
theorem d_D_at_103 : decode prog_1_method_8_code 103 = .ok (.getfield 12, 3) := by decide +kernel
theorem d_D_at_106 : decode prog_1_method_8_code 106 = .ok (.iload_n 1, 1) := by decide +kernel
theorem d_D_at_107 : decode prog_1_method_8_code 107 = .ok (.iconst 1, 1) := by decide +kernel
theorem d_D_at_108 : decode prog_1_method_8_code 108 = .ok (.invokevirtual 169, 3) := by decide +kernel
theorem d_D_at_111 : decode prog_1_method_8_code 111 = .ok (.ireturn, 1) := by decide +kernel
theorem d_D_at_112 : decode prog_1_method_8_code 112 = .ok (.iconst (-1), 1) := by decide +kernel
theorem d_D_at_113 : decode prog_1_method_8_code 113 = .ok (.ireturn, 1) := by decide +kernel
def w_D_at {d : Nat} (hd : 2 ≤ d) := (show SS ("DebtDoors", prog_1_method_8_code, 4) (some .int) d 0 0 0 0 _ from (sS (p1 := 8) (sRn 3 (rFr fl_D_115 nk_9_0 (rFr fl_D_12 nk_11_0 (rAn 0 d_D_at_0 rfl) d_D_at_1) d_D_at_4) d_D_at_7 rfl (by decide)) (sS (p1 := 18) (sIf (pn := 18) (tt := 16) (xC (rNot (rJ1 (tgt := 18) k_ne (rV p_Le_has (Nat.le_trans (Nat.le_of_ble_eq_true rfl) hd) lv_D_156 (rAi (rAr rA0 (rAn 3 d_D_at_8 rfl)) (rIn 1 d_D_at_9 rfl)) (by decide) d_D_at_10) d_D_at_13 (by decide)))) (sRi (xE (rI d_D_at_16 rfl)) d_D_at_17 rfl)) (sSw (ts := [56, 63, 70, 77, 84, 98]) (dt := 112) (rIn 2 d_D_at_18 rfl) d_D_at_19 (by decide) (by decide) (by decide) (zSwk_c (sRi (xE (rIa (rFr fl_D_157 nk_1_1 (rAn 3 d_D_at_56 rfl) d_D_at_57) (rIn 1 d_D_at_60 rfl) d_D_at_61)) d_D_at_62 rfl) (zSwk_c (sRi (xE (rIa (rFr fl_D_160 nk_1_2 (rAn 3 d_D_at_63 rfl) d_D_at_64) (rIn 1 d_D_at_67 rfl) d_D_at_68)) d_D_at_69 rfl) (zSwk_c (sRi (xE (rIa (rFr fl_D_163 nk_1_3 (rAn 3 d_D_at_70 rfl) d_D_at_71) (rIn 1 d_D_at_74 rfl) d_D_at_75)) d_D_at_76 rfl) (zSwk_c (sRi (xE (rIa (rFr fl_D_166 nk_1_4 (rAn 3 d_D_at_77 rfl) d_D_at_78) (rIn 1 d_D_at_81 rfl) d_D_at_82)) d_D_at_83 rfl) (zSwk_c (sRi (xV lv_D_169 (xA (rAi (rAi (rAr (rAr rA0 (rFr fl_D_51 nk_11_7 (rAn 0 d_D_at_84 rfl) d_D_at_85)) (rFr fl_D_12 nk_11_0 (rAn 0 d_D_at_88 rfl) d_D_at_89)) (rIn 1 d_D_at_92 rfl)) (rI d_D_at_93 rfl))) (by decide) d_D_at_94) d_D_at_97 rfl) (zSwk_c (sRi (xV lv_D_169 (xA (rAi (rAi (rAr (rAr rA0 (rFr fl_D_51 nk_11_7 (rAn 0 d_D_at_98 rfl) d_D_at_99)) (rFr fl_D_12 nk_11_0 (rAn 0 d_D_at_102 rfl) d_D_at_103)) (rIn 1 d_D_at_106 rfl)) (rI d_D_at_107 rfl))) (by decide) d_D_at_108) d_D_at_111 rfl) zSwk_n)))))) (sRi (xE (rI d_D_at_112 rfl)) d_D_at_113 rfl)))))
theorem m_M_isDebt : Cond.instanceMethod y_M_isDebt.1 ∈ zTb ∧ Cond.selects y_M_isDebt.1.cls y_M_isDebt.1 y_M_isDebt.1 ∈ zTb ∧ Cond.initialized y_M_isDebt.1.cls ∈ zTb ∧ Cond.code y_M_isDebt.1 y_M_isDebt.2.1 y_M_isDebt.2.2.1 y_M_isDebt.2.2.2 ∈ zTb ∧ (y_M_isDebt.1.cls ≠ "java/lang/invoke/MethodHandle" ∧ y_M_isDebt.1.cls ≠ "java/lang/invoke/VarHandle" ∧ (parseMethodDescriptor y_M_isDebt.1.desc).map (fun d => d.parameters.length) = some 1) ∧ y_M_isDebt.2.2.1 ≤ 20 :=
  ⟨(zTb_in 1588 (by decide +kernel) (by decide +kernel)), (List.mem_filter.mpr ⟨List.mem_append_left _ (by decide +kernel), by decide +kernel⟩), (zTb_in 151 (by decide +kernel) (by decide +kernel)), (zTb_in 1589 (by decide +kernel) (by decide +kernel)), by decide +kernel, by decide +kernel⟩
theorem lv_M_169 : zLv "DebtDoorsModel" 169 y_M_isDebt 1 12 := ⟨⟨(zTb_in 1586 (by decide +kernel) (by decide +kernel)), m_M_isDebt.1, m_M_isDebt.2.1, m_M_isDebt.2.2⟩, _, rfl, rfl⟩
theorem m_M_soldFor : Cond.instanceMethod y_M_soldFor.1 ∈ zTb ∧ Cond.selects y_M_soldFor.1.cls y_M_soldFor.1 y_M_soldFor.1 ∈ zTb ∧ Cond.initialized y_M_soldFor.1.cls ∈ zTb ∧ Cond.code y_M_soldFor.1 y_M_soldFor.2.1 y_M_soldFor.2.2.1 y_M_soldFor.2.2.2 ∈ zTb ∧ (y_M_soldFor.1.cls ≠ "java/lang/invoke/MethodHandle" ∧ y_M_soldFor.1.cls ≠ "java/lang/invoke/VarHandle" ∧ (parseMethodDescriptor y_M_soldFor.1.desc).map (fun d => d.parameters.length) = some 1) ∧ y_M_soldFor.2.2.1 ≤ 20 :=
  ⟨(zTb_in 1592 (by decide +kernel) (by decide +kernel)), (List.mem_filter.mpr ⟨List.mem_append_left _ (by decide +kernel), by decide +kernel⟩), (zTb_in 151 (by decide +kernel) (by decide +kernel)), (zTb_in 1593 (by decide +kernel) (by decide +kernel)), by decide +kernel, by decide +kernel⟩
theorem lv_M_172 : zLv "DebtDoorsModel" 172 y_M_soldFor 1 12 := ⟨⟨(zTb_in 1590 (by decide +kernel) (by decide +kernel)), m_M_soldFor.1, m_M_soldFor.2.1, m_M_soldFor.2.2⟩, _, rfl, rfl⟩
theorem m_M_growsBy : Cond.instanceMethod y_M_growsBy.1 ∈ zTb ∧ Cond.selects y_M_growsBy.1.cls y_M_growsBy.1 y_M_growsBy.1 ∈ zTb ∧ Cond.initialized y_M_growsBy.1.cls ∈ zTb ∧ Cond.code y_M_growsBy.1 y_M_growsBy.2.1 y_M_growsBy.2.2.1 y_M_growsBy.2.2.2 ∈ zTb ∧ (y_M_growsBy.1.cls ≠ "java/lang/invoke/MethodHandle" ∧ y_M_growsBy.1.cls ≠ "java/lang/invoke/VarHandle" ∧ (parseMethodDescriptor y_M_growsBy.1.desc).map (fun d => d.parameters.length) = some 1) ∧ y_M_growsBy.2.2.1 ≤ 20 :=
  ⟨(zTb_in 1662 (by decide +kernel) (by decide +kernel)), (List.mem_filter.mpr ⟨List.mem_append_left _ (by decide +kernel), by decide +kernel⟩), (zTb_in 151 (by decide +kernel) (by decide +kernel)), (zTb_in 1663 (by decide +kernel) (by decide +kernel)), by decide +kernel, by decide +kernel⟩
theorem lv_M_175 : zLv "DebtDoorsModel" 175 y_M_growsBy 1 12 := ⟨⟨(zTb_in 1660 (by decide +kernel) (by decide +kernel)), m_M_growsBy.1, m_M_growsBy.2.1, m_M_growsBy.2.2⟩, _, rfl, rfl⟩
def y_M_at : zMt := (⟨"DebtDoorsModel", "at", "(II)I"⟩, prog_14_method_30_code, 3, some .int)
theorem d_M_at_0 : decode prog_14_method_30_code 0 = .ok (.aload_n 0, 1) := by decide +kernel
theorem d_M_at_1 : decode prog_14_method_30_code 1 = .ok (.iload_n 1, 1) := by decide +kernel
theorem d_M_at_2 : decode prog_14_method_30_code 2 = .ok (.invokevirtual 169, 3) := by decide +kernel
theorem d_M_at_5 : decode prog_14_method_30_code 5 = .ok (.ifCond .ne 5, 3) := by decide +kernel
theorem d_M_at_8 : decode prog_14_method_30_code 8 = .ok (.iconst (-1), 1) := by decide +kernel
theorem d_M_at_9 : decode prog_14_method_30_code 9 = .ok (.ireturn, 1) := by decide +kernel
theorem d_M_at_10 : decode prog_14_method_30_code 10 = .ok (.iload_n 2, 1) := by decide +kernel
theorem d_M_at_11 : decode prog_14_method_30_code 11 = .ok (.iconst 0, 1) := by decide +kernel
theorem d_M_at_12 : decode prog_14_method_30_code 12 = .ok (.iconst 3, 1) := by decide +kernel
theorem d_M_at_13 : decode prog_14_method_30_code 13 = .ok (.invokestatic 123, 3) := by decide +kernel
theorem d_M_at_16 : decode prog_14_method_30_code 16 = .ok (.ifCond .eq 17, 3) := by decide +kernel
theorem d_M_at_19 : decode prog_14_method_30_code 19 = .ok (.aload_n 0, 1) := by decide +kernel
theorem d_M_at_20 : decode prog_14_method_30_code 20 = .ok (.getfield 24, 3) := by decide +kernel
theorem d_M_at_23 : decode prog_14_method_30_code 23 = .ok (.bipush 7, 2) := by decide +kernel
theorem d_M_at_25 : decode prog_14_method_30_code 25 = .ok (.iconst 4, 1) := by decide +kernel
theorem d_M_at_26 : decode prog_14_method_30_code 26 = .ok (.iload_n 1, 1) := by decide +kernel
theorem d_M_at_27 : decode prog_14_method_30_code 27 = .ok (.imul, 1) := by decide +kernel
theorem d_M_at_28 : decode prog_14_method_30_code 28 = .ok (.iadd, 1) := by decide +kernel
theorem d_M_at_29 : decode prog_14_method_30_code 29 = .ok (.iload_n 2, 1) := by decide +kernel
theorem d_M_at_30 : decode prog_14_method_30_code 30 = .ok (.iadd, 1) := by decide +kernel
theorem d_M_at_31 : decode prog_14_method_30_code 31 = .ok (.iaload, 1) := by decide +kernel
theorem d_M_at_32 : decode prog_14_method_30_code 32 = .ok (.ireturn, 1) := by decide +kernel
theorem d_M_at_33 : decode prog_14_method_30_code 33 = .ok (.iload_n 2, 1) := by decide +kernel
theorem d_M_at_34 : decode prog_14_method_30_code 34 = .ok (.iconst 4, 1) := by decide +kernel
theorem d_M_at_35 : decode prog_14_method_30_code 35 = .ok (.if_icmp .ne 11, 3) := by decide +kernel
theorem d_M_at_38 : decode prog_14_method_30_code 38 = .ok (.aload_n 0, 1) := by decide +kernel
theorem d_M_at_39 : decode prog_14_method_30_code 39 = .ok (.iload_n 1, 1) := by decide +kernel
theorem d_M_at_40 : decode prog_14_method_30_code 40 = .ok (.invokevirtual 172, 3) := by decide +kernel
theorem d_M_at_43 : decode prog_14_method_30_code 43 = .ok (.goto 17, 3) := by decide +kernel
theorem d_M_at_46 : decode prog_14_method_30_code 46 = .ok (.iload_n 2, 1) := by decide +kernel
theorem d_M_at_47 : decode prog_14_method_30_code 47 = .ok (.iconst 5, 1) := by decide +kernel
theorem d_M_at_48 : decode prog_14_method_30_code 48 = .ok (.if_icmp .ne 11, 3) := by decide +kernel
theorem d_M_at_51 : decode prog_14_method_30_code 51 = .ok (.aload_n 0, 1) := by decide +kernel
theorem d_M_at_52 : decode prog_14_method_30_code 52 = .ok (.iload_n 1, 1) := by decide +kernel
theorem d_M_at_53 : decode prog_14_method_30_code 53 = .ok (.invokevirtual 175, 3) := by decide +kernel
theorem d_M_at_56 : decode prog_14_method_30_code 56 = .ok (.goto 4, 3) := by decide +kernel
theorem d_M_at_59 : decode prog_14_method_30_code 59 = .ok (.iconst (-1), 1) := by decide +kernel
theorem d_M_at_60 : decode prog_14_method_30_code 60 = .ok (.ireturn, 1) := by decide +kernel
def w_M_at {d : Nat} (hd : 3 ≤ d) := (show SS ("DebtDoorsModel", prog_14_method_30_code, 3) (some .int) d 0 0 0 0 _ from (sS (p1 := 10) (sIf (pn := 10) (tt := 8) (xC (rNot (rJ1 (tgt := 10) k_ne (rV p_M_isDebt (Nat.le_trans (Nat.le_of_ble_eq_true rfl) hd) lv_M_169 (rAi (rAr rA0 (rAn 0 d_M_at_0 rfl)) (rIn 1 d_M_at_1 rfl)) (by decide) d_M_at_2) d_M_at_5 (by decide)))) (sRi (xE (rI d_M_at_8 rfl)) d_M_at_9 rfl)) (sS (p1 := 33) (sIf (pn := 33) (tt := 19) (xC (rNot (rJ1 (tgt := 33) k_eq (rS p_M_lies (Nat.le_trans (Nat.le_of_ble_eq_true rfl) hd) ls_M_123 (rAi (rAi (rAi rA0 (rIn 2 d_M_at_10 rfl)) (rI d_M_at_11 rfl)) (rI d_M_at_12 rfl)) (by decide) d_M_at_13) d_M_at_16 (by decide)))) (sRi (xE (rIa (rFr fl_M_24 nk_12_2 (rAn 0 d_M_at_19 rfl) d_M_at_20) (r2 o_add (r2 o_add (rB d_M_at_23 rfl) (r2 o_mul (rI d_M_at_25 rfl) (rIn 1 d_M_at_26 rfl) d_M_at_27) d_M_at_28) (rIn 2 d_M_at_29 rfl) d_M_at_30) d_M_at_31)) d_M_at_32 rfl)) (sRi (xT2 (xC (rNot (rJ2 (tgt := 46) j_ne (rIn 2 d_M_at_33 rfl) (rI d_M_at_34 rfl) d_M_at_35 (by decide)))) (xGoE (p2 := 60) (xV lv_M_172 (xA (rAi (rAr rA0 (rAn 0 d_M_at_38 rfl)) (rIn 1 d_M_at_39 rfl))) (by decide) d_M_at_40) d_M_at_43 (by decide)) (xT2 (xC (rNot (rJ2 (tgt := 59) j_ne (rIn 2 d_M_at_46 rfl) (rI d_M_at_47 rfl) d_M_at_48 (by decide)))) (xGoE (p2 := 60) (xV lv_M_175 (xA (rAi (rAr rA0 (rAn 0 d_M_at_51 rfl)) (rIn 1 d_M_at_52 rfl))) (by decide) d_M_at_53) d_M_at_56 (by decide)) (xE (rI d_M_at_59 rfl)))) d_M_at_60 rfl))))
noncomputable def atA (Z : Zt) (F : Option (List Cls)) (A : Lg) (w : Int → Int) (k x : Int) : Int := zit (0 ≤ k ∧ k < (A.2.1.length : Int)) (if x = 0 then (dbt A k).1 else if x = 1 then (dbt A k).2.1 else if x = 2 then (dbt A k).2.2.1 else if x = 3 then (dbt A k).2.2.2 else if x = 4 then odA Z F A w k 2 else if x = 5 then odA Z F A w k 1 else -1) (-1)
theorem LC_at {k x : Int} : LC y_D_at y_M_at [vi k, vi x] := LC.tl (f := fun Z F A w => atA Z F A w k x) (fun μ Z F A w h => by
    have hn := h.2.1.2.1.1
    have hd1 := h.d
    refine zCw.use (zSp.ss [vr 0, vi k, vi x, vx 0] rfl (w_D_at (d := 100) (by decide)) rfl rfl ?_) (by decide) (fun q μ' e => e)
    (try simp only [zit_e, Bool.and_eq_true, Bool.or_eq_true, Bool.not_eq_true', Bool.and_eq_false_iff, Bool.or_eq_false_iff, Bool.not_eq_false', zbe, zdt, zdf, zb2_p, zbp_0, zbp_1, zbp_inj, zbp_01, Bool.true_eq_false, Bool.false_eq_true, true_and, and_true, Decidable.not_not, Classical.not_not, implies_true, List.nil_append, List.cons_append, List.append_assoc, Option.some.injEq, Sum.inl.injEq, zSw_c, zSw_n]); (try simp only [zit_e, Bool.and_eq_true, Bool.or_eq_true, Bool.not_eq_true', Bool.and_eq_false_iff, Bool.or_eq_false_iff, Bool.not_eq_false', zbe, zdt, zdf, zb2_p, zbp_0, zbp_1, zbp_inj, zbp_01, Bool.true_eq_false, Bool.false_eq_true, true_and, and_true, Decidable.not_not, Classical.not_not, implies_true, List.nil_append, List.cons_append, List.append_assoc, Option.some.injEq, Sum.inl.injEq, zSw_c, zSw_n, zc_0, zc_1, zc_2, zc_324, f_Le_has, g_Le_has]); (try simp only [zi_cs, zi_c0, zii_cs, zii_c0, zl_cs, zl_c0, zll_cs, zll_c0, zr_cs, zr_c0, zrr_cs, zrr_c0, zxs_cs, zxs_c0, zxx_cs, zxx_c0, zfree_c0, zfree_c1, zfree_cs, zfree_cz, zlong_i, zlong_r, zlong_x, zset_0, zset_s, true_and, and_true, Option.some.injEq, Sum.inl.injEq, Sum.inr.injEq, zb2_p, zbp_0, zbp_1, zbp_inj, zbp_01, Nat.zero_add, Nat.reduceAdd, implies_true, List.nil_append, List.cons_append, List.append_assoc, Int.not_lt, Int.not_le, Decidable.not_not, Int.zero_add, Int.reduceLE, Int.reduceLT, Int.reduceEq, Int.reduceNe, Int.reduceAdd, Int.reduceSub, Int.reduceMul, Int.reduceNeg, Int.reduceToNat, Nat.reduceMul, Nat.reduceLT, Nat.reduceEqDiff, and_self, ite_true, ite_false, zx1, zx2, zRecv, List.length_cons, List.length_nil, ne_eq, not_true_eq_false, not_false_eq_true, true_or, or_true, or_false, false_or, and_false, false_and, zf01, zf10, reduceCtorEq, zSw_c, zSw_n, zm_r, zit_T, zit_F, false_implies, true_implies, zc_0, zc_1, zc_2, zc_324, f_Le_has, g_Le_has])
    rw [hd1.2.2.2.2]
    unfold atA
    refine zif (fun c => ⟨(zit_f c).symm, HM.rf, KC.rf⟩) (fun c => ?_)
    have c := Classical.not_not.mp c
    rw [zit_t c]
    obtain ⟨e1, e2⟩ := h.e c.1 c.2
    have e4 : (μ 4 k = (dbt A k).1 ∧ μ 5 k = (dbt A k).2.1) ∧ μ 6 k = (dbt A k).2.2.1 ∧ μ 7 k = (dbt A k).2.2.2 := ⟨⟨congrArg (fun x => x.1) e1, congrArg (fun x => x.2.1) e1⟩, congrArg (fun x => x.2.2.1) e1, congrArg (fun x => x.2.2.2) e1⟩
    have hk : 0 ≤ k ∧ k < 16 := by omega
    refine zif (fun c0 => ?_) (fun c0 => ?_)
    · rw [if_pos c0]
      exact ⟨hk, e4.1.1, HM.rf, KC.rf⟩
    rw [if_neg c0]
    refine zif (fun c1 => ?_) (fun c1 => ?_)
    · rw [if_pos c1]
      exact ⟨hk, e4.1.2, HM.rf, KC.rf⟩
    rw [if_neg c1]
    refine zif (fun c2 => ?_) (fun c2 => ?_)
    · rw [if_pos c2]
      exact ⟨hk, e4.2.1, HM.rf, KC.rf⟩
    rw [if_neg c2]
    refine zif (fun c3 => ?_) (fun c3 => ?_)
    · rw [if_pos c3]
      exact ⟨hk, e4.2.2, HM.rf, KC.rf⟩
    rw [if_neg c3]
    refine zif (fun c4 => ?_) (fun c4 => ?_)
    · rw [if_pos c4]
      exact zCw.use (q_C_ofDebt (d := 6) (by decide) h c.1 c.2 (Or.inr rfl)) (by omega) (fun q μ1 e => ⟨_, e.1, rfl, e.2.hm, e.2.kc⟩)
    rw [if_neg c4]
    refine zif (fun c5 => ?_) (fun c5 => ?_)
    · rw [if_pos c5]
      exact zCw.use (q_C_ofDebt (d := 6) (by decide) h c.1 c.2 (Or.inl rfl)) (by omega) (fun q μ1 e => ⟨_, e.1, rfl, e.2.hm, e.2.kc⟩)
    rw [if_neg c5]
    exact ⟨rfl, HM.rf, KC.rf⟩) (fun μ Z F A w h => by
    have hn := h.2.1.2.1.1
    have hd1 := h.d
    refine zCw.use (zSp.ss [vr 355, vi k, vi x] rfl (w_M_at (d := 100) (by decide)) rfl rfl ?_) (by decide) (fun q μ' e => e)
    (try simp only [zit_e, Bool.and_eq_true, Bool.or_eq_true, Bool.not_eq_true', Bool.and_eq_false_iff, Bool.or_eq_false_iff, Bool.not_eq_false', zbe, zdt, zdf, zb2_p, zbp_0, zbp_1, zbp_inj, zbp_01, Bool.true_eq_false, Bool.false_eq_true, true_and, and_true, Decidable.not_not, Classical.not_not, implies_true, List.nil_append, List.cons_append, List.append_assoc, Option.some.injEq, Sum.inl.injEq, zSw_c, zSw_n]); (try simp only [zit_e, Bool.and_eq_true, Bool.or_eq_true, Bool.not_eq_true', Bool.and_eq_false_iff, Bool.or_eq_false_iff, Bool.not_eq_false', zbe, zdt, zdf, zb2_p, zbp_0, zbp_1, zbp_inj, zbp_01, Bool.true_eq_false, Bool.false_eq_true, true_and, and_true, Decidable.not_not, Classical.not_not, implies_true, List.nil_append, List.cons_append, List.append_assoc, Option.some.injEq, Sum.inl.injEq, zSw_c, zSw_n, zc_355, f_M_isDebt, g_M_isDebt, f_M_lies, g_M_lies]); (try simp only [zi_cs, zi_c0, zii_cs, zii_c0, zl_cs, zl_c0, zll_cs, zll_c0, zr_cs, zr_c0, zrr_cs, zrr_c0, zxs_cs, zxs_c0, zxx_cs, zxx_c0, zfree_c0, zfree_c1, zfree_cs, zfree_cz, zlong_i, zlong_r, zlong_x, zset_0, zset_s, true_and, and_true, Option.some.injEq, Sum.inl.injEq, Sum.inr.injEq, zb2_p, zbp_0, zbp_1, zbp_inj, zbp_01, Nat.zero_add, Nat.reduceAdd, implies_true, List.nil_append, List.cons_append, List.append_assoc, Int.not_lt, Int.not_le, Decidable.not_not, Int.zero_add, Int.reduceLE, Int.reduceLT, Int.reduceEq, Int.reduceNe, Int.reduceAdd, Int.reduceSub, Int.reduceMul, Int.reduceNeg, Int.reduceToNat, Nat.reduceMul, Nat.reduceLT, Nat.reduceEqDiff, and_self, ite_true, ite_false, zx1, zx2, zRecv, List.length_cons, List.length_nil, ne_eq, not_true_eq_false, not_false_eq_true, true_or, or_true, or_false, false_or, and_false, false_and, zf01, zf10, reduceCtorEq, zSw_c, zSw_n, zm_r, zit_T, zit_F, false_implies, true_implies, zc_355, f_M_isDebt, g_M_isDebt, f_M_lies, g_M_lies])
    rw [hd1.2.2.2.2]
    unfold atA
    refine ⟨by omega, ?_⟩
    refine zif (fun c => ⟨(zit_f (by omega)).symm, HC.rf, KM.rf⟩) (fun c => ?_)
    have c : 0 ≤ k ∧ k < (A.2.1.length : Int) := by omega
    rw [zit_t c]
    obtain ⟨e1, e2⟩ := h.e c.1 c.2
    have e4 : (μ 357 (7 + 4 * k) = (dbt A k).1 ∧ μ 357 (7 + 4 * k + 1) = (dbt A k).2.1) ∧ μ 357 (7 + 4 * k + 2) = (dbt A k).2.2.1 ∧ μ 357 (7 + 4 * k + 3) = (dbt A k).2.2.2 := ⟨⟨congrArg (fun x => x.1) e1, congrArg (fun x => x.2.1) e1⟩, congrArg (fun x => x.2.2.1) e1, congrArg (fun x => x.2.2.2) e1⟩
    refine zif (fun c0 => ?_) (fun c0 => ?_)
    · refine ⟨⟨⟨⟨zI_s (by omega) (by omega), zI_s (by omega) (by omega)⟩, zI_s (by omega) (by omega)⟩, by omega, by omega⟩, ?_, HC.rf, KM.rf⟩
      rcases (show x = 0 ∨ x = 1 ∨ x = 2 ∨ x = 3 by omega) with rfl | rfl | rfl | rfl
      · rw [Int.add_zero]
        exact e4.1.1
      · exact e4.1.2
      · exact e4.2.1
      · exact e4.2.2
    simp only [show (x = 0) = False from eq_false (by omega), show (x = 1) = False from eq_false (by omega), show (x = 2) = False from eq_false (by omega), show (x = 3) = False from eq_false (by omega), if_false]
    refine zif (fun c4 => ?_) (fun c4 => ?_)
    · rw [if_pos c4]
      exact zCw.use (q_R_soldFor (d := 48) (by decide) h c.1 c.2) (by omega) (fun q μ1 e => ⟨_, e.1, rfl, e.2.hc, e.2.km⟩)
    rw [if_neg c4]
    refine zif (fun c5 => ?_) (fun c5 => ?_)
    · rw [if_pos c5]
      exact zCw.use (q_R_growsBy (d := 48) (by decide) h c.1 c.2) (by omega) (fun q μ1 e => ⟨_, e.1, rfl, e.2.hc, e.2.km⟩)
    rw [if_neg c5]
    exact ⟨rfl, HC.rf, KM.rf⟩)

