/-! a day passes -/
noncomputable def grI (Z : Zt) (F : Option (List Cls)) (w : Int → Int) (A : Lg) (d : Int) : Int := min 9999 ((dbt A d).2.2.1 + (dbt A d).2.2.1 * odA Z F A w d 1 / 100)
noncomputable def grS (Z : Zt) (F : Option (List Cls)) (w : Int → Int) (A : Lg) (d : Int) : Lg := (A.1, A.2.1.set d.toNat ((dbt A d).1, (dbt A d).2.1, grI Z F w A d, (dbt A d).2.2.2), A.2.2)
noncomputable def grw (Z : Zt) (F : Option (List Cls)) (w : Int → Int) (A : Lg) : Nat → Lg × Int
  | 0 => ((A.1, A.2.1, A.2.2 + 1), 0)
  | j + 1 => (grS Z F w (grw Z F w A j).1 j, (grw Z F w A j).2 + (grI Z F w (grw Z F w A j).1 j - (dbt (grw Z F w A j).1 j).2.2.1))
theorem grS_ok {Z : Zt} {F : Option (List Cls)} {w : Int → Int} {A : Lg} {d : Int} (hA : okA A) (h0 : 0 ≤ d) (h1 : d < (A.2.1.length : Int)) : okA (grS Z F w A d) ∧ (grS Z F w A d).2.1.length = A.2.1.length ∧ (dbt A d).2.2.1 ≤ grI Z F w A d ∧ grI Z F w A d ≤ 9999 := by
  obtain ⟨x1, x2, x3⟩ := odA_in (Z := Z) (F := F) (w := w) (x := 1) hA h0 h1
  have hm := x1.2.2.2.1
  have hp : 0 ≤ (dbt A d).2.2.1 * odA Z F A w d 1 := Int.mul_nonneg (by omega) x2
  have hi : (dbt A d).2.2.1 ≤ grI Z F w A d ∧ grI Z F w A d ≤ 9999 := by
    unfold grI
    omega
  have hl : (grS Z F w A d).2.1.length = A.2.1.length := List.length_set
  refine ⟨⟨hA.1, ⟨by rw [hl]; exact hA.2.1.1, fun x hx => ?_⟩, hA.2.2⟩, hl, hi⟩
  rcases List.mem_or_eq_of_mem_set hx with hx | rfl
  · exact hA.2.1.2 x hx
  · exact ⟨x1.1, x1.2.1, x1.2.2.1, by show 1 ≤ grI Z F w A d ∧ grI Z F w A d ≤ 9999; omega, x1.2.2.2.2⟩
theorem grw_ok {Z : Zt} {F : Option (List Cls)} {w : Int → Int} {A : Lg} (hA : okA A) (hd : A.2.2 < 999) : ∀ j : Nat, (j : Int) ≤ (A.2.1.length : Int) → okA (grw Z F w A j).1 ∧ (grw Z F w A j).1.2.1.length = A.2.1.length ∧ (0 ≤ (grw Z F w A j).2 ∧ (grw Z F w A j).2 ≤ 9999 * j)
  | 0, _ => by
    have := hA.2.2
    exact ⟨⟨hA.1, hA.2.1, by show 0 ≤ A.2.2 + 1 ∧ A.2.2 + 1 ≤ 999; omega⟩, rfl, by show (0 : Int) ≤ 0 ∧ (0 : Int) ≤ 9999 * 0; omega⟩
  | j + 1, hj => by
    obtain ⟨i1, i2, i3⟩ := grw_ok (Z := Z) (F := F) (w := w) hA hd j (by omega)
    obtain ⟨g1, g2, g3⟩ := grS_ok (Z := Z) (F := F) (w := w) (d := j) i1 (by omega) (by omega)
    have hx := (odA_in (Z := Z) (F := F) (w := w) (x := 1) i1 (show (0 : Int) ≤ j by omega) (by omega)).1.2.2.2.1
    refine ⟨g1, g2.trans i2, ?_⟩
    show 0 ≤ (grw Z F w A j).2 + (grI Z F w (grw Z F w A j).1 j - (dbt (grw Z F w A j).1 j).2.2.1) ∧ (grw Z F w A j).2 + (grI Z F w (grw Z F w A j).1 j - (dbt (grw Z F w A j).1 j).2.2.1) ≤ 9999 * ((j + 1 : Nat) : Int)
    omega
theorem grw_st {Z : Zt} {F : Option (List Cls)} {w : Int → Int} {A : Lg} {j : Int} (hA : okA A) (h : 0 ≤ j ∧ j < (A.2.1.length : Int)) : (0 ≤ (dbt A j).2.2.1 * odA Z F A w j 1 ∧ (dbt A j).2.2.1 * odA Z F A w j 1 ≤ 9999 * 99) ∧ 1 ≤ (dbt A j).2.2.1 ∧ (dbt A j).2.2.1 ≤ 9999 := by
  obtain ⟨x1, x2, x3⟩ := odA_in (Z := Z) (F := F) (w := w) (x := 1) hA h.1 h.2
  have hm := x1.2.2.2.1
  have x3 : odA Z F A w j 1 ≤ 99 := x3
  exact ⟨⟨Int.mul_nonneg (by omega) x2, Int.mul_le_mul hm.2 x3 x2 (by decide)⟩, hm⟩
def y_D_nextDay : zMt := (⟨"DebtDoors", "nextDay", "(LDebtDoors$Town;LDebtDoors$Rules;)I"⟩, prog_1_method_38_code, 6, some .int)
theorem d_D_nextDay_0 : decode prog_1_method_38_code 0 = .ok (.aload_n 0, 1) := by decide +kernel
theorem d_D_nextDay_1 : decode prog_1_method_38_code 1 = .ok (.getfield 115, 3) := by decide +kernel
theorem d_D_nextDay_4 : decode prog_1_method_38_code 4 = .ok (.astore_n 2, 1) := by decide +kernel
theorem d_D_nextDay_5 : decode prog_1_method_38_code 5 = .ok (.aload_n 2, 1) := by decide +kernel
theorem d_D_nextDay_6 : decode prog_1_method_38_code 6 = .ok (.getfield 179, 3) := by decide +kernel
theorem d_D_nextDay_9 : decode prog_1_method_38_code 9 = .ok (.sipush 999, 3) := by decide +kernel
theorem d_D_nextDay_12 : decode prog_1_method_38_code 12 = .ok (.if_icmp .lt 6, 3) := by decide +kernel
theorem d_D_nextDay_15 : decode prog_1_method_38_code 15 = .ok (.bipush (-3), 2) := by decide +kernel
theorem d_D_nextDay_17 : decode prog_1_method_38_code 17 = .ok (.ireturn, 1) := by decide +kernel
theorem d_D_nextDay_18 : decode prog_1_method_38_code 18 = .ok (.aload_n 2, 1) := by decide +kernel
theorem d_D_nextDay_19 : decode prog_1_method_38_code 19 = .ok (.dup, 1) := by decide +kernel
theorem d_D_nextDay_20 : decode prog_1_method_38_code 20 = .ok (.getfield 179, 3) := by decide +kernel
theorem d_D_nextDay_23 : decode prog_1_method_38_code 23 = .ok (.iconst 1, 1) := by decide +kernel
theorem d_D_nextDay_24 : decode prog_1_method_38_code 24 = .ok (.iadd, 1) := by decide +kernel
theorem d_D_nextDay_25 : decode prog_1_method_38_code 25 = .ok (.putfield 179, 3) := by decide +kernel
theorem d_D_nextDay_28 : decode prog_1_method_38_code 28 = .ok (.iconst 0, 1) := by decide +kernel
theorem d_D_nextDay_29 : decode prog_1_method_38_code 29 = .ok (.istore_n 3, 1) := by decide +kernel
theorem d_D_nextDay_30 : decode prog_1_method_38_code 30 = .ok (.iconst 0, 1) := by decide +kernel
theorem d_D_nextDay_31 : decode prog_1_method_38_code 31 = .ok (.istore 4, 2) := by decide +kernel
theorem d_D_nextDay_33 : decode prog_1_method_38_code 33 = .ok (.iload 4, 2) := by decide +kernel
theorem d_D_nextDay_35 : decode prog_1_method_38_code 35 = .ok (.aload_n 2, 1) := by decide +kernel
theorem d_D_nextDay_36 : decode prog_1_method_38_code 36 = .ok (.getfield 153, 3) := by decide +kernel
theorem d_D_nextDay_39 : decode prog_1_method_38_code 39 = .ok (.if_icmp .ge 65, 3) := by decide +kernel
theorem d_D_nextDay_42 : decode prog_1_method_38_code 42 = .ok (.aload_n 2, 1) := by decide +kernel
theorem d_D_nextDay_43 : decode prog_1_method_38_code 43 = .ok (.getfield 163, 3) := by decide +kernel
theorem d_D_nextDay_46 : decode prog_1_method_38_code 46 = .ok (.iload 4, 2) := by decide +kernel
theorem d_D_nextDay_48 : decode prog_1_method_38_code 48 = .ok (.iaload, 1) := by decide +kernel
theorem d_D_nextDay_49 : decode prog_1_method_38_code 49 = .ok (.aload_n 1, 1) := by decide +kernel
theorem d_D_nextDay_50 : decode prog_1_method_38_code 50 = .ok (.aload_n 0, 1) := by decide +kernel
theorem d_D_nextDay_51 : decode prog_1_method_38_code 51 = .ok (.iload 4, 2) := by decide +kernel
theorem d_D_nextDay_53 : decode prog_1_method_38_code 53 = .ok (.iconst 1, 1) := by decide +kernel
theorem d_D_nextDay_54 : decode prog_1_method_38_code 54 = .ok (.invokevirtual 169, 3) := by decide +kernel
theorem d_D_nextDay_57 : decode prog_1_method_38_code 57 = .ok (.imul, 1) := by decide +kernel
theorem d_D_nextDay_58 : decode prog_1_method_38_code 58 = .ok (.bipush 100, 2) := by decide +kernel
theorem d_D_nextDay_60 : decode prog_1_method_38_code 60 = .ok (.idiv, 1) := by decide +kernel
theorem d_D_nextDay_61 : decode prog_1_method_38_code 61 = .ok (.istore 5, 2) := by decide +kernel
theorem d_D_nextDay_63 : decode prog_1_method_38_code 63 = .ok (.iload 5, 2) := by decide +kernel
theorem d_D_nextDay_65 : decode prog_1_method_38_code 65 = .ok (.sipush 9999, 3) := by decide +kernel
theorem d_D_nextDay_68 : decode prog_1_method_38_code 68 = .ok (.aload_n 2, 1) := by decide +kernel
theorem d_D_nextDay_69 : decode prog_1_method_38_code 69 = .ok (.getfield 163, 3) := by decide +kernel
theorem d_D_nextDay_72 : decode prog_1_method_38_code 72 = .ok (.iload 4, 2) := by decide +kernel
theorem d_D_nextDay_74 : decode prog_1_method_38_code 74 = .ok (.iaload, 1) := by decide +kernel
theorem d_D_nextDay_75 : decode prog_1_method_38_code 75 = .ok (.isub, 1) := by decide +kernel
theorem d_D_nextDay_76 : decode prog_1_method_38_code 76 = .ok (.invokestatic 326, 3) := by decide +kernel
theorem d_D_nextDay_79 : decode prog_1_method_38_code 79 = .ok (.istore 5, 2) := by decide +kernel
theorem d_D_nextDay_81 : decode prog_1_method_38_code 81 = .ok (.aload_n 2, 1) := by decide +kernel
theorem d_D_nextDay_82 : decode prog_1_method_38_code 82 = .ok (.getfield 163, 3) := by decide +kernel
theorem d_D_nextDay_85 : decode prog_1_method_38_code 85 = .ok (.iload 4, 2) := by decide +kernel
theorem d_D_nextDay_87 : decode prog_1_method_38_code 87 = .ok (.dup2, 1) := by decide +kernel
theorem d_D_nextDay_88 : decode prog_1_method_38_code 88 = .ok (.iaload, 1) := by decide +kernel
theorem d_D_nextDay_89 : decode prog_1_method_38_code 89 = .ok (.iload 5, 2) := by decide +kernel
theorem d_D_nextDay_91 : decode prog_1_method_38_code 91 = .ok (.iadd, 1) := by decide +kernel
theorem d_D_nextDay_92 : decode prog_1_method_38_code 92 = .ok (.iastore, 1) := by decide +kernel
theorem d_D_nextDay_93 : decode prog_1_method_38_code 93 = .ok (.iload_n 3, 1) := by decide +kernel
theorem d_D_nextDay_94 : decode prog_1_method_38_code 94 = .ok (.iload 5, 2) := by decide +kernel
theorem d_D_nextDay_96 : decode prog_1_method_38_code 96 = .ok (.iadd, 1) := by decide +kernel
theorem d_D_nextDay_97 : decode prog_1_method_38_code 97 = .ok (.istore_n 3, 1) := by decide +kernel
theorem d_D_nextDay_98 : decode prog_1_method_38_code 98 = .ok (.iinc 4 1, 3) := by decide +kernel
theorem d_D_nextDay_101 : decode prog_1_method_38_code 101 = .ok (.goto (-68), 3) := by decide +kernel
theorem d_D_nextDay_104 : decode prog_1_method_38_code 104 = .ok (.iload_n 3, 1) := by decide +kernel
theorem d_D_nextDay_105 : decode prog_1_method_38_code 105 = .ok (.ireturn, 1) := by decide +kernel
def w_D_nextDay {d : Nat} (hd : 3 ≤ d) := (show SS ("DebtDoors", prog_1_method_38_code, 6) (some .int) d 0 0 0 0 _ from (sS (p1 := 5) (sRn 2 (rFr fl_D_115 nk_9_0 (rAn 0 d_D_nextDay_0 rfl) d_D_nextDay_1) d_D_nextDay_4 rfl (by decide)) (sS (p1 := 18) (sIf (pn := 18) (tt := 15) (xC (rNot (rJ2 (tgt := 18) j_lt (rF 6 fl_D_179 nk_1_6 (rAn 2 d_D_nextDay_5 rfl) d_D_nextDay_6 rfl) (rSi d_D_nextDay_9 rfl) d_D_nextDay_12 (by decide)))) (sRi (xE (rB d_D_nextDay_15 rfl)) d_D_nextDay_17 rfl)) (sS (p1 := 28) (sPo 6 o_add fl_D_179 fp_1_6 nk_1_6 (rAn 2 d_D_nextDay_18 rfl) d_D_nextDay_19 d_D_nextDay_20 (rI d_D_nextDay_23 rfl) d_D_nextDay_24 d_D_nextDay_25 rfl) (sS (p1 := 30) (sIn 3 (xE (rI d_D_nextDay_28 rfl)) d_D_nextDay_29 rfl (by decide)) (sS (p1 := 104) (sS (p1 := 33) (sI (xE (rI d_D_nextDay_30 rfl)) d_D_nextDay_31 (by decide)) (sLp (ps := 98) (tt := 42) (pn := 104) (p1 := 0) (p2 := 0) (xC (rNot (rJ2 (tgt := 104) j_ge (rIl d_D_nextDay_33) (rF 5 fl_D_153 nk_1_5 (rAn 2 d_D_nextDay_35 rfl) d_D_nextDay_36 rfl) d_D_nextDay_39 (by decide)))) (sS (p1 := 63) (sI (xx2 o_div (xx2 o_mul (xE (rIa (rFr fl_D_163 nk_1_3 (rAn 2 d_D_nextDay_42 rfl) d_D_nextDay_43) (rIl d_D_nextDay_46) d_D_nextDay_48)) (xV lv_D_169 (xA (rAi (rAi (rAr (rAr rA0 (rAn 1 d_D_nextDay_49 rfl)) (rAn 0 d_D_nextDay_50 rfl)) (rIl d_D_nextDay_51)) (rI d_D_nextDay_53 rfl))) (by decide) d_D_nextDay_54) d_D_nextDay_57) (xE (rB d_D_nextDay_58 rfl)) d_D_nextDay_60) d_D_nextDay_61 (by decide)) (sS (p1 := 81) (sI (xE (rMin km_D_326 (rIl d_D_nextDay_63) (r2 o_sub (rSi d_D_nextDay_65 rfl) (rIa (rFr fl_D_163 nk_1_3 (rAn 2 d_D_nextDay_68 rfl) d_D_nextDay_69) (rIl d_D_nextDay_72) d_D_nextDay_74) d_D_nextDay_75) (by decide) (Nat.le_trans (Nat.le_of_ble_eq_true rfl) hd) d_D_nextDay_76)) d_D_nextDay_79 (by decide)) (sS (p1 := 93) (sAo o_add (rFr fl_D_163 nk_1_3 (rAn 2 d_D_nextDay_81 rfl) d_D_nextDay_82) (rIl d_D_nextDay_85) d_D_nextDay_87 d_D_nextDay_88 (rIl d_D_nextDay_89) d_D_nextDay_91 d_D_nextDay_92) (sIn 3 (xE (r2 o_add (rIn 3 d_D_nextDay_93 rfl) (rIl d_D_nextDay_94) d_D_nextDay_96)) d_D_nextDay_97 rfl (by decide))))) (sGo (pn := 33) (sInc d_D_nextDay_98 (by decide)) d_D_nextDay_101 (by decide)))) (sRi (xE (rIn 3 d_D_nextDay_104 rfl)) d_D_nextDay_105 rfl)))))))
def y_M_waits : zMt := (⟨"DebtDoorsModel", "waits", "()I"⟩, prog_14_method_93_code, 5, some .int)
theorem d_M_waits_0 : decode prog_14_method_93_code 0 = .ok (.iconst 0, 1) := by decide +kernel
theorem d_M_waits_1 : decode prog_14_method_93_code 1 = .ok (.istore_n 1, 1) := by decide +kernel
theorem d_M_waits_2 : decode prog_14_method_93_code 2 = .ok (.aload_n 0, 1) := by decide +kernel
theorem d_M_waits_3 : decode prog_14_method_93_code 3 = .ok (.getfield 24, 3) := by decide +kernel
theorem d_M_waits_6 : decode prog_14_method_93_code 6 = .ok (.bipush 72, 2) := by decide +kernel
theorem d_M_waits_8 : decode prog_14_method_93_code 8 = .ok (.dup2, 1) := by decide +kernel
theorem d_M_waits_9 : decode prog_14_method_93_code 9 = .ok (.iaload, 1) := by decide +kernel
theorem d_M_waits_10 : decode prog_14_method_93_code 10 = .ok (.iconst 1, 1) := by decide +kernel
theorem d_M_waits_11 : decode prog_14_method_93_code 11 = .ok (.iadd, 1) := by decide +kernel
theorem d_M_waits_12 : decode prog_14_method_93_code 12 = .ok (.iastore, 1) := by decide +kernel
theorem d_M_waits_13 : decode prog_14_method_93_code 13 = .ok (.iconst 0, 1) := by decide +kernel
theorem d_M_waits_14 : decode prog_14_method_93_code 14 = .ok (.istore_n 2, 1) := by decide +kernel
theorem d_M_waits_15 : decode prog_14_method_93_code 15 = .ok (.iload_n 2, 1) := by decide +kernel
theorem d_M_waits_16 : decode prog_14_method_93_code 16 = .ok (.aload_n 0, 1) := by decide +kernel
theorem d_M_waits_17 : decode prog_14_method_93_code 17 = .ok (.invokevirtual 137, 3) := by decide +kernel
theorem d_M_waits_20 : decode prog_14_method_93_code 20 = .ok (.if_icmp .ge 68, 3) := by decide +kernel
theorem d_M_waits_23 : decode prog_14_method_93_code 23 = .ok (.bipush 7, 2) := by decide +kernel
theorem d_M_waits_25 : decode prog_14_method_93_code 25 = .ok (.iconst 4, 1) := by decide +kernel
theorem d_M_waits_26 : decode prog_14_method_93_code 26 = .ok (.iload_n 2, 1) := by decide +kernel
theorem d_M_waits_27 : decode prog_14_method_93_code 27 = .ok (.imul, 1) := by decide +kernel
theorem d_M_waits_28 : decode prog_14_method_93_code 28 = .ok (.iadd, 1) := by decide +kernel
theorem d_M_waits_29 : decode prog_14_method_93_code 29 = .ok (.iconst 2, 1) := by decide +kernel
theorem d_M_waits_30 : decode prog_14_method_93_code 30 = .ok (.iadd, 1) := by decide +kernel
theorem d_M_waits_31 : decode prog_14_method_93_code 31 = .ok (.istore_n 3, 1) := by decide +kernel
theorem d_M_waits_32 : decode prog_14_method_93_code 32 = .ok (.sipush 9999, 3) := by decide +kernel
theorem d_M_waits_35 : decode prog_14_method_93_code 35 = .ok (.aload_n 0, 1) := by decide +kernel
theorem d_M_waits_36 : decode prog_14_method_93_code 36 = .ok (.getfield 24, 3) := by decide +kernel
theorem d_M_waits_39 : decode prog_14_method_93_code 39 = .ok (.iload_n 3, 1) := by decide +kernel
theorem d_M_waits_40 : decode prog_14_method_93_code 40 = .ok (.iaload, 1) := by decide +kernel
theorem d_M_waits_41 : decode prog_14_method_93_code 41 = .ok (.aload_n 0, 1) := by decide +kernel
theorem d_M_waits_42 : decode prog_14_method_93_code 42 = .ok (.getfield 24, 3) := by decide +kernel
theorem d_M_waits_45 : decode prog_14_method_93_code 45 = .ok (.iload_n 3, 1) := by decide +kernel
theorem d_M_waits_46 : decode prog_14_method_93_code 46 = .ok (.iaload, 1) := by decide +kernel
theorem d_M_waits_47 : decode prog_14_method_93_code 47 = .ok (.aload_n 0, 1) := by decide +kernel
theorem d_M_waits_48 : decode prog_14_method_93_code 48 = .ok (.iload_n 2, 1) := by decide +kernel
theorem d_M_waits_49 : decode prog_14_method_93_code 49 = .ok (.invokevirtual 175, 3) := by decide +kernel
theorem d_M_waits_52 : decode prog_14_method_93_code 52 = .ok (.imul, 1) := by decide +kernel
theorem d_M_waits_53 : decode prog_14_method_93_code 53 = .ok (.bipush 100, 2) := by decide +kernel
theorem d_M_waits_55 : decode prog_14_method_93_code 55 = .ok (.idiv, 1) := by decide +kernel
theorem d_M_waits_56 : decode prog_14_method_93_code 56 = .ok (.iadd, 1) := by decide +kernel
theorem d_M_waits_57 : decode prog_14_method_93_code 57 = .ok (.invokestatic 335, 3) := by decide +kernel
theorem d_M_waits_60 : decode prog_14_method_93_code 60 = .ok (.istore 4, 2) := by decide +kernel
theorem d_M_waits_62 : decode prog_14_method_93_code 62 = .ok (.iload_n 1, 1) := by decide +kernel
theorem d_M_waits_63 : decode prog_14_method_93_code 63 = .ok (.iload 4, 2) := by decide +kernel
theorem d_M_waits_65 : decode prog_14_method_93_code 65 = .ok (.aload_n 0, 1) := by decide +kernel
theorem d_M_waits_66 : decode prog_14_method_93_code 66 = .ok (.getfield 24, 3) := by decide +kernel
theorem d_M_waits_69 : decode prog_14_method_93_code 69 = .ok (.iload_n 3, 1) := by decide +kernel
theorem d_M_waits_70 : decode prog_14_method_93_code 70 = .ok (.iaload, 1) := by decide +kernel
theorem d_M_waits_71 : decode prog_14_method_93_code 71 = .ok (.isub, 1) := by decide +kernel
theorem d_M_waits_72 : decode prog_14_method_93_code 72 = .ok (.iadd, 1) := by decide +kernel
theorem d_M_waits_73 : decode prog_14_method_93_code 73 = .ok (.istore_n 1, 1) := by decide +kernel
theorem d_M_waits_74 : decode prog_14_method_93_code 74 = .ok (.aload_n 0, 1) := by decide +kernel
theorem d_M_waits_75 : decode prog_14_method_93_code 75 = .ok (.getfield 24, 3) := by decide +kernel
theorem d_M_waits_78 : decode prog_14_method_93_code 78 = .ok (.iload_n 3, 1) := by decide +kernel
theorem d_M_waits_79 : decode prog_14_method_93_code 79 = .ok (.iload 4, 2) := by decide +kernel
theorem d_M_waits_81 : decode prog_14_method_93_code 81 = .ok (.iastore, 1) := by decide +kernel
theorem d_M_waits_82 : decode prog_14_method_93_code 82 = .ok (.iinc 2 1, 3) := by decide +kernel
theorem d_M_waits_85 : decode prog_14_method_93_code 85 = .ok (.goto (-70), 3) := by decide +kernel
theorem d_M_waits_88 : decode prog_14_method_93_code 88 = .ok (.iload_n 1, 1) := by decide +kernel
theorem d_M_waits_89 : decode prog_14_method_93_code 89 = .ok (.ireturn, 1) := by decide +kernel
def w_M_waits {d : Nat} (hd : 2 ≤ d) := (show SS ("DebtDoorsModel", prog_14_method_93_code, 5) (some .int) d 0 0 0 0 _ from (sS (p1 := 2) (sIn 1 (xE (rI d_M_waits_0 rfl)) d_M_waits_1 rfl (by decide)) (sS (p1 := 13) (sAo o_add (rFr fl_M_24 nk_12_2 (rAn 0 d_M_waits_2 rfl) d_M_waits_3) (rB d_M_waits_6 rfl) d_M_waits_8 d_M_waits_9 (rI d_M_waits_10 rfl) d_M_waits_11 d_M_waits_12) (sS (p1 := 88) (sS (p1 := 15) (sIn 2 (xE (rI d_M_waits_13 rfl)) d_M_waits_14 rfl (by decide)) (sLp (ps := 82) (tt := 23) (pn := 88) (p1 := 0) (p2 := 0) (xC (rNot (rJ2 (tgt := 88) j_ge (rIn 2 d_M_waits_15 rfl) (rV p_M_debts (Nat.le_trans (Nat.le_of_ble_eq_true rfl) hd) lv_M_137 (rAr rA0 (rAn 0 d_M_waits_16 rfl)) (by decide) d_M_waits_17) d_M_waits_20 (by decide)))) (sS (p1 := 32) (sIn 3 (xE (r2 o_add (r2 o_add (rB d_M_waits_23 rfl) (r2 o_mul (rI d_M_waits_25 rfl) (rIn 2 d_M_waits_26 rfl) d_M_waits_27) d_M_waits_28) (rI d_M_waits_29 rfl) d_M_waits_30)) d_M_waits_31 rfl (by decide)) (sS (p1 := 62) (sI (xS ls_M_335 (xAi (xA (rAi rA0 (rSi d_M_waits_32 rfl))) (xx2 o_add (xE (rIa (rFr fl_M_24 nk_12_2 (rAn 0 d_M_waits_35 rfl) d_M_waits_36) (rIn 3 d_M_waits_39 rfl) d_M_waits_40)) (xx2 o_div (xx2 o_mul (xE (rIa (rFr fl_M_24 nk_12_2 (rAn 0 d_M_waits_41 rfl) d_M_waits_42) (rIn 3 d_M_waits_45 rfl) d_M_waits_46)) (xV lv_M_175 (xA (rAi (rAr rA0 (rAn 0 d_M_waits_47 rfl)) (rIn 2 d_M_waits_48 rfl))) (by decide) d_M_waits_49) d_M_waits_52) (xE (rB d_M_waits_53 rfl)) d_M_waits_55) d_M_waits_56)) (by decide) d_M_waits_57) d_M_waits_60 (by decide)) (sS (p1 := 74) (sIn 1 (xE (r2 o_add (rIn 1 d_M_waits_62 rfl) (r2 o_sub (rIl d_M_waits_63) (rIa (rFr fl_M_24 nk_12_2 (rAn 0 d_M_waits_65 rfl) d_M_waits_66) (rIn 3 d_M_waits_69 rfl) d_M_waits_70) d_M_waits_71) d_M_waits_72)) d_M_waits_73 rfl (by decide)) (sAs (rFr fl_M_24 nk_12_2 (rAn 0 d_M_waits_74 rfl) d_M_waits_75) (rIn 3 d_M_waits_78 rfl) (xE (rIl d_M_waits_79)) d_M_waits_81)))) (sGo (pn := 15) (sInc d_M_waits_82 (by decide)) d_M_waits_85 (by decide)))) (sRi (xE (rIn 1 d_M_waits_88 rfl)) d_M_waits_89 rfl)))))
theorem m_M_waits : Cond.instanceMethod y_M_waits.1 ∈ zTb ∧ Cond.selects y_M_waits.1.cls y_M_waits.1 y_M_waits.1 ∈ zTb ∧ Cond.initialized y_M_waits.1.cls ∈ zTb ∧ Cond.code y_M_waits.1 y_M_waits.2.1 y_M_waits.2.2.1 y_M_waits.2.2.2 ∈ zTb ∧ (y_M_waits.1.cls ≠ "java/lang/invoke/MethodHandle" ∧ y_M_waits.1.cls ≠ "java/lang/invoke/VarHandle" ∧ (parseMethodDescriptor y_M_waits.1.desc).map (fun d => d.parameters.length) = some 0) ∧ y_M_waits.2.2.1 ≤ 20 :=
  ⟨(zTb_in 1876 (by decide +kernel) (by decide +kernel)), (List.mem_filter.mpr ⟨List.mem_append_left _ (by decide +kernel), by decide +kernel⟩), (zTb_in 151 (by decide +kernel) (by decide +kernel)), (zTb_in 1877 (by decide +kernel) (by decide +kernel)), by decide +kernel, by decide +kernel⟩
theorem lv_M_375 : zLv "DebtDoorsModel" 375 y_M_waits 0 12 := ⟨⟨(zTb_in 1874 (by decide +kernel) (by decide +kernel)), m_M_waits.1, m_M_waits.2.1, m_M_waits.2.2⟩, _, rfl, rfl⟩
def y_M_waitsKept : zMt := (⟨"DebtDoorsModel", "waitsKept", "()I"⟩, prog_14_method_94_code, 1, some .int)
theorem d_M_waitsKept_0 : decode prog_14_method_94_code 0 = .ok (.aload_n 0, 1) := by decide +kernel
theorem d_M_waitsKept_1 : decode prog_14_method_94_code 1 = .ok (.getfield 24, 3) := by decide +kernel
theorem d_M_waitsKept_4 : decode prog_14_method_94_code 4 = .ok (.bipush 72, 2) := by decide +kernel
theorem d_M_waitsKept_6 : decode prog_14_method_94_code 6 = .ok (.iaload, 1) := by decide +kernel
theorem d_M_waitsKept_7 : decode prog_14_method_94_code 7 = .ok (.sipush 999, 3) := by decide +kernel
theorem d_M_waitsKept_10 : decode prog_14_method_94_code 10 = .ok (.if_icmp .ne 6, 3) := by decide +kernel
theorem d_M_waitsKept_13 : decode prog_14_method_94_code 13 = .ok (.bipush (-3), 2) := by decide +kernel
theorem d_M_waitsKept_15 : decode prog_14_method_94_code 15 = .ok (.ireturn, 1) := by decide +kernel
theorem d_M_waitsKept_16 : decode prog_14_method_94_code 16 = .ok (.aload_n 0, 1) := by decide +kernel
theorem d_M_waitsKept_17 : decode prog_14_method_94_code 17 = .ok (.iconst 4, 1) := by decide +kernel
theorem d_M_waitsKept_18 : decode prog_14_method_94_code 18 = .ok (.invokevirtual 357, 3) := by decide +kernel
theorem d_M_waitsKept_21 : decode prog_14_method_94_code 21 = .ok (.aload_n 0, 1) := by decide +kernel
theorem d_M_waitsKept_22 : decode prog_14_method_94_code 22 = .ok (.invokevirtual 375, 3) := by decide +kernel
theorem d_M_waitsKept_25 : decode prog_14_method_94_code 25 = .ok (.ireturn, 1) := by decide +kernel
def w_M_waitsKept {d : Nat} (hd : 1 ≤ d) := (show SS ("DebtDoorsModel", prog_14_method_94_code, 1) (some .int) d 0 0 0 0 _ from (sS (p1 := 16) (sIf (pn := 16) (tt := 13) (xC (rNot (rJ2 (tgt := 16) j_ne (rIa (rFr fl_M_24 nk_12_2 (rAn 0 d_M_waitsKept_0 rfl) d_M_waitsKept_1) (rB d_M_waitsKept_4 rfl) d_M_waitsKept_6) (rSi d_M_waitsKept_7 rfl) d_M_waitsKept_10 (by decide)))) (sRi (xE (rB d_M_waitsKept_13 rfl)) d_M_waitsKept_15 rfl)) (sS (p1 := 21) (sV (xVv lv_M_357 (xA (rAi (rAr rA0 (rAn 0 d_M_waitsKept_16 rfl)) (rI d_M_waitsKept_17 rfl))) (by decide) d_M_waitsKept_18)) (sRi (xV lv_M_375 (xA (rAr rA0 (rAn 0 d_M_waitsKept_21 rfl))) (by decide) d_M_waitsKept_22) d_M_waitsKept_25 rfl))))
theorem q_D_nextDay {d : Nat} (hd : 8 ≤ d) {μ : zMem} {Z : Zt} {F : Option (List Cls)} {A : Lg} {w : Int → Int} (h : CTx μ Z F A w) (hl : A.2.2 < 999) : zSp d 0 0 y_D_nextDay zT0 [vr 1, vr 324] μ zT0 (fun r μ' => r = some (vi (grw Z F w A A.2.1.length).2) ∧ CTx μ' Z F (grw Z F w A A.2.1.length).1 w ∧ zfc [2, 6, 325, 326, 327] μ μ') := by
  obtain ⟨n1, n2, n3, n4, n5, n6, n7⟩ := h.n
  refine zSp.ss [vr 1, vr 324, vx 0, vx 0, vx 0, vx 0] rfl (w_D_nextDay (Nat.le_trans (by decide) hd)) rfl rfl ?_
  (try simp only [zit_e, Bool.and_eq_true, Bool.or_eq_true, Bool.not_eq_true', Bool.and_eq_false_iff, Bool.or_eq_false_iff, Bool.not_eq_false', zbe, zdt, zdf, zb2_p, zbp_0, zbp_1, zbp_inj, zbp_01, Bool.true_eq_false, Bool.false_eq_true, true_and, and_true, Decidable.not_not, Classical.not_not, implies_true, List.nil_append, List.cons_append, List.append_assoc, Option.some.injEq, Sum.inl.injEq, zSw_c, zSw_n]); (try simp only [zit_e, Bool.and_eq_true, Bool.or_eq_true, Bool.not_eq_true', Bool.and_eq_false_iff, Bool.or_eq_false_iff, Bool.not_eq_false', zbe, zdt, zdf, zb2_p, zbp_0, zbp_1, zbp_inj, zbp_01, Bool.true_eq_false, Bool.false_eq_true, true_and, and_true, Decidable.not_not, Classical.not_not, implies_true, List.nil_append, List.cons_append, List.append_assoc, Option.some.injEq, Sum.inl.injEq, zSw_c, zSw_n, zc_1, zc_2, zc_324]); (try simp only [zi_cs, zi_c0, zii_cs, zii_c0, zl_cs, zl_c0, zll_cs, zll_c0, zr_cs, zr_c0, zrr_cs, zrr_c0, zxs_cs, zxs_c0, zxx_cs, zxx_c0, zfree_c0, zfree_c1, zfree_cs, zfree_cz, zlong_i, zlong_r, zlong_x, zset_0, zset_s, true_and, and_true, Option.some.injEq, Sum.inl.injEq, Sum.inr.injEq, zb2_p, zbp_0, zbp_1, zbp_inj, zbp_01, Nat.zero_add, Nat.reduceAdd, implies_true, List.nil_append, List.cons_append, List.append_assoc, Int.not_lt, Int.not_le, Decidable.not_not, Int.zero_add, Int.reduceLE, Int.reduceLT, Int.reduceEq, Int.reduceNe, Int.reduceAdd, Int.reduceSub, Int.reduceMul, Int.reduceNeg, Int.reduceToNat, Nat.reduceMul, Nat.reduceLT, Nat.reduceEqDiff, and_self, ite_true, ite_false, zx1, zx2, zRecv, List.length_cons, List.length_nil, ne_eq, not_true_eq_false, not_false_eq_true, true_or, or_true, or_false, false_or, and_false, false_and, zf01, zf10, reduceCtorEq, zSw_c, zSw_n, zm_r, zit_T, zit_F, false_implies, true_implies, zc_1, zc_2, zc_324])
  rw [n4]
  refine zif (fun c => absurd c (by omega)) (fun _ => ?_)
  have hda := h.2.1.2.2
  refine ⟨by ((try simp only [zI_e]); (first | done | omega | skip)), ?_⟩
  have hgr : ∀ j : Nat, (j : Int) ≤ (A.2.1.length : Int) → okA (grw Z F w A j).1 ∧ (grw Z F w A j).1.2.1.length = A.2.1.length ∧ (0 ≤ (grw Z F w A j).2 ∧ (grw Z F w A j).2 ≤ 9999 * j) := grw_ok h.2.1 hl
  have hlen := h.2.1.2.1.1
  refine zLoop.up A.2.1.length (fun j ρ μ1 => ∃ x : zV, ρ = [vr 1, vr 324, vr 2, vi (grw Z F w A j).2, vi j, x] ∧ CTx μ1 Z F (grw Z F w A j).1 w ∧ zfc [2, 6, 325, 326, 327] μ μ1) ⟨_, rfl, ?_, zfc.rf.zm (by decide)⟩ ?_
  · refine h.up (hgr 0 (by omega)).1 ?_ n5.1 (fun c hc => zm_off _ (by omega)) ?_
    · exact lgO_is n7 ((dbD_c (fun c hc => zm_off _ (by omega)) rfl).trans n3) rfl
    · rw [zm_off _ (by decide)]
      exact h.2.2.2.2.2
  · rintro j ρ μ1 hj ⟨x, rfl, hC, hf⟩
    (try simp only [zit_e, Bool.and_eq_true, Bool.or_eq_true, Bool.not_eq_true', Bool.and_eq_false_iff, Bool.or_eq_false_iff, Bool.not_eq_false', zbe, zdt, zdf, zb2_p, zbp_0, zbp_1, zbp_inj, zbp_01, Bool.true_eq_false, Bool.false_eq_true, true_and, and_true, Decidable.not_not, Classical.not_not, implies_true, List.nil_append, List.cons_append, List.append_assoc, Option.some.injEq, Sum.inl.injEq, zSw_c, zSw_n]); (try simp only [zit_e, Bool.and_eq_true, Bool.or_eq_true, Bool.not_eq_true', Bool.and_eq_false_iff, Bool.or_eq_false_iff, Bool.not_eq_false', zbe, zdt, zdf, zb2_p, zbp_0, zbp_1, zbp_inj, zbp_01, Bool.true_eq_false, Bool.false_eq_true, true_and, and_true, Decidable.not_not, Classical.not_not, implies_true, List.nil_append, List.cons_append, List.append_assoc, Option.some.injEq, Sum.inl.injEq, zSw_c, zSw_n, zc_1, zc_2, zc_324]); (try simp only [zi_cs, zi_c0, zii_cs, zii_c0, zl_cs, zl_c0, zll_cs, zll_c0, zr_cs, zr_c0, zrr_cs, zrr_c0, zxs_cs, zxs_c0, zxx_cs, zxx_c0, zfree_c0, zfree_c1, zfree_cs, zfree_cz, zlong_i, zlong_r, zlong_x, zset_0, zset_s, true_and, and_true, Option.some.injEq, Sum.inl.injEq, Sum.inr.injEq, zb2_p, zbp_0, zbp_1, zbp_inj, zbp_01, Nat.zero_add, Nat.reduceAdd, implies_true, List.nil_append, List.cons_append, List.append_assoc, Int.not_lt, Int.not_le, Decidable.not_not, Int.zero_add, Int.reduceLE, Int.reduceLT, Int.reduceEq, Int.reduceNe, Int.reduceAdd, Int.reduceSub, Int.reduceMul, Int.reduceNeg, Int.reduceToNat, Nat.reduceMul, Nat.reduceLT, Nat.reduceEqDiff, and_self, ite_true, ite_false, zx1, zx2, zRecv, List.length_cons, List.length_nil, ne_eq, not_true_eq_false, not_false_eq_true, true_or, or_true, or_false, false_or, and_false, false_and, zf01, zf10, reduceCtorEq, zSw_c, zSw_n, zm_r, zit_T, zit_F, false_implies, true_implies, zc_1, zc_2, zc_324])
    have hn := hC.n
    obtain ⟨g1, g2, g3⟩ := hgr j (by omega)
    rw [hn.2.2.2.2.2.1, g2]
    refine zif (fun c => ?_) (fun c => ?_)
    · obtain ⟨d1, d2⟩ := hC.e (k := j) (by omega) (by omega)
      refine ⟨by omega, ?_⟩
      refine zCw.use (q_C_ofDebt (d := 6) (by decide) hC (k := j) (by omega) (by omega) (Or.inl rfl)) (by omega) (fun q μ2 e => ?_)
      obtain ⟨rfl, hcf⟩ := e
      have hcx := hC.f hcf
      have k6 : μ2 6 j = (dbt (grw Z F w A j).1 j).2.2.1 := by
        rw [hcf.1 6 (by decide)]
        exact congrArg (fun x => x.2.2.1) d1
      refine ⟨_, rfl, ?_⟩
      rw [← hcf.1 6 (by decide), k6]
      obtain ⟨o1, o2⟩ := grw_st (Z := Z) (F := F) (w := w) (A := (grw Z F w A j).1) (j := j) g1 (by omega)
      obtain ⟨i1, i2, i3⟩ := hgr (j + 1) (by omega)
      generalize hm2 : (dbt (grw Z F w A j).1 j).2.2.1 = m at *
      generalize hmm : m * odA Z F (grw Z F w A j).1 w j 1 = mg at *
      have et : mg.tdiv 100 = mg / 100 := Int.tdiv_eq_ediv_of_nonneg (by omega)
      have hm3 := d2.2.2.2.1
      rw [hm2] at hm3
      have e1 : m + min (mg / 100) (9999 - m) = grI Z F w (grw Z F w A j).1 j := by
        unfold grI
        rw [hm2, hmm]
        omega
      have e2 : (grw Z F w A j).2 + min (mg / 100) (9999 - m) = (grw Z F w A (j + 1)).2 := by
        show _ = (grw Z F w A j).2 + (grI Z F w (grw Z F w A j).1 j - (dbt (grw Z F w A j).1 j).2.2.1)
        rw [hm2, ← e1]
        omega
      refine ⟨by ((try simp only [zI_e]); (first | done | omega | skip)), by rw [et]; ((try simp only [zI_e]); (first | done | omega | skip)), ⟨by omega, by ((try simp only [zI_e]); (first | done | omega | skip))⟩, by omega, by omega, by rw [et]; ((try simp only [zI_e]); (first | done | omega | skip)), by rw [et]; ((try simp only [zI_e]); (first | done | omega | skip)), by ((try simp only [zI_e]); (first | done | omega | skip)), ?_⟩
      rw [et, e1, e2]
      refine znx (by omega) ⟨_, rfl, ?_, (hf.tr hcf.1).mo (by simp) |>.zm (by decide)⟩
      refine hcx.up i1 (lgO_is ?_ ?_ ?_) (by rw [zm_off 2 (by decide)]; exact hcx.n.2.2.2.2.1.1) (fun c hc => zm_off _ (by omega)) ?_
      · rw [zm_off 3 (by decide)]
        exact hcx.n.2.2.2.2.2.2
      · rw [dbD_am (by omega) (by rw [hcx.n.2.2.2.2.2.1]; omega), hcx.n.2.2.1, (hcx.e (k := j) (by omega) (by omega)).1]
        rfl
      · rw [zm_off 2 (by decide)]
        exact hcx.n.2.2.2.1
      · rw [zm_off _ (by decide)]
        exact hcx.2.2.2.2.2
    · have : j = A.2.1.length := by omega
      subst this
      exact ⟨rfl, hC, hf⟩
theorem q_M_waits {d : Nat} (hd : 50 ≤ d) {μ : zMem} {Z : Zt} {F : Option (List Cls)} {A : Lg} {w : Int → Int} (h : MTx μ Z F A w) (hl : A.2.2 < 999) : zSp d 0 0 y_M_waits zT0 [vr 355] μ zT0 (fun r μ' => r = some (vi (grw Z F w A A.2.1.length).2) ∧ MTx μ' Z F (grw Z F w A A.2.1.length).1 w ∧ (∀ i : Int, 73 ≤ i → μ' 357 i = μ 357 i) ∧ (∀ j : Int, j ≠ 20 → j ≠ 21 → j ≠ 22 → j ≠ 23 → μ' 355 j = μ 355 j) ∧ zfc [355, 357, 367] μ μ') := by
  obtain ⟨n1, n2, n3, n4, n5, n6, n7⟩ := h.n
  refine zSp.ss [vr 355, vx 0, vx 0, vx 0, vx 0] rfl (w_M_waits (Nat.le_trans (by decide) hd)) rfl rfl ?_
  (try simp only [zit_e, Bool.and_eq_true, Bool.or_eq_true, Bool.not_eq_true', Bool.and_eq_false_iff, Bool.or_eq_false_iff, Bool.not_eq_false', zbe, zdt, zdf, zb2_p, zbp_0, zbp_1, zbp_inj, zbp_01, Bool.true_eq_false, Bool.false_eq_true, true_and, and_true, Decidable.not_not, Classical.not_not, implies_true, List.nil_append, List.cons_append, List.append_assoc, Option.some.injEq, Sum.inl.injEq, zSw_c, zSw_n]); (try simp only [zit_e, Bool.and_eq_true, Bool.or_eq_true, Bool.not_eq_true', Bool.and_eq_false_iff, Bool.or_eq_false_iff, Bool.not_eq_false', zbe, zdt, zdf, zb2_p, zbp_0, zbp_1, zbp_inj, zbp_01, Bool.true_eq_false, Bool.false_eq_true, true_and, and_true, Decidable.not_not, Classical.not_not, implies_true, List.nil_append, List.cons_append, List.append_assoc, Option.some.injEq, Sum.inl.injEq, zSw_c, zSw_n, zc_355]); (try simp only [zi_cs, zi_c0, zii_cs, zii_c0, zl_cs, zl_c0, zll_cs, zll_c0, zr_cs, zr_c0, zrr_cs, zrr_c0, zxs_cs, zxs_c0, zxx_cs, zxx_c0, zfree_c0, zfree_c1, zfree_cs, zfree_cz, zlong_i, zlong_r, zlong_x, zset_0, zset_s, true_and, and_true, Option.some.injEq, Sum.inl.injEq, Sum.inr.injEq, zb2_p, zbp_0, zbp_1, zbp_inj, zbp_01, Nat.zero_add, Nat.reduceAdd, implies_true, List.nil_append, List.cons_append, List.append_assoc, Int.not_lt, Int.not_le, Decidable.not_not, Int.zero_add, Int.reduceLE, Int.reduceLT, Int.reduceEq, Int.reduceNe, Int.reduceAdd, Int.reduceSub, Int.reduceMul, Int.reduceNeg, Int.reduceToNat, Nat.reduceMul, Nat.reduceLT, Nat.reduceEqDiff, and_self, ite_true, ite_false, zx1, zx2, zRecv, List.length_cons, List.length_nil, ne_eq, not_true_eq_false, not_false_eq_true, true_or, or_true, or_false, false_or, and_false, false_and, zf01, zf10, reduceCtorEq, zSw_c, zSw_n, zm_r, zit_T, zit_F, false_implies, true_implies, zc_355])
  rw [n4]
  have hda := h.2.1.2.2
  refine ⟨by ((try simp only [zI_e]); (first | done | omega | skip)), ?_⟩
  have hgr : ∀ j : Nat, (j : Int) ≤ (A.2.1.length : Int) → okA (grw Z F w A j).1 ∧ (grw Z F w A j).1.2.1.length = A.2.1.length ∧ (0 ≤ (grw Z F w A j).2 ∧ (grw Z F w A j).2 ≤ 9999 * j) := grw_ok h.2.1 hl
  have hlen := h.2.1.2.1.1
  refine zLoop.up A.2.1.length (fun j ρ μ1 => ∃ x y : zV, ρ = [vr 355, vi (grw Z F w A j).2, vi j, x, y] ∧ MTx μ1 Z F (grw Z F w A j).1 w ∧ (∀ i : Int, 73 ≤ i → μ1 357 i = μ 357 i) ∧ (∀ j : Int, j ≠ 20 → j ≠ 21 → j ≠ 22 → j ≠ 23 → μ1 355 j = μ 355 j) ∧ zfc [355, 357, 367] μ μ1) ⟨_, _, rfl, ?_, fun i hi => by rw [zm_o (by omega)], fun _ _ _ _ _ => by rw [zm_off _ (by decide)], zfc.rf.zm (by decide)⟩ ?_
  · refine h.up (hgr 0 (by omega)).1 ?_ n5.1 (fun i hi => by rw [zm_o (by omega)])
    exact lgM_is ((tL_congr (fun i a b => by rw [zm_o (by omega)])).trans n7) ((dbM_c (by omega) (fun j a b => by rw [zm_o (by omega)])).trans n3) (by rw [zm_s]; rfl)
  · rintro j ρ μ1 hj ⟨x, y, rfl, hM, hf⟩
    (try simp only [zit_e, Bool.and_eq_true, Bool.or_eq_true, Bool.not_eq_true', Bool.and_eq_false_iff, Bool.or_eq_false_iff, Bool.not_eq_false', zbe, zdt, zdf, zb2_p, zbp_0, zbp_1, zbp_inj, zbp_01, Bool.true_eq_false, Bool.false_eq_true, true_and, and_true, Decidable.not_not, Classical.not_not, implies_true, List.nil_append, List.cons_append, List.append_assoc, Option.some.injEq, Sum.inl.injEq, zSw_c, zSw_n]); (try simp only [zit_e, Bool.and_eq_true, Bool.or_eq_true, Bool.not_eq_true', Bool.and_eq_false_iff, Bool.or_eq_false_iff, Bool.not_eq_false', zbe, zdt, zdf, zb2_p, zbp_0, zbp_1, zbp_inj, zbp_01, Bool.true_eq_false, Bool.false_eq_true, true_and, and_true, Decidable.not_not, Classical.not_not, implies_true, List.nil_append, List.cons_append, List.append_assoc, Option.some.injEq, Sum.inl.injEq, zSw_c, zSw_n, zc_355, f_M_debts, g_M_debts, f_M_lesser, g_M_lesser]); (try simp only [zi_cs, zi_c0, zii_cs, zii_c0, zl_cs, zl_c0, zll_cs, zll_c0, zr_cs, zr_c0, zrr_cs, zrr_c0, zxs_cs, zxs_c0, zxx_cs, zxx_c0, zfree_c0, zfree_c1, zfree_cs, zfree_cz, zlong_i, zlong_r, zlong_x, zset_0, zset_s, true_and, and_true, Option.some.injEq, Sum.inl.injEq, Sum.inr.injEq, zb2_p, zbp_0, zbp_1, zbp_inj, zbp_01, Nat.zero_add, Nat.reduceAdd, implies_true, List.nil_append, List.cons_append, List.append_assoc, Int.not_lt, Int.not_le, Decidable.not_not, Int.zero_add, Int.reduceLE, Int.reduceLT, Int.reduceEq, Int.reduceNe, Int.reduceAdd, Int.reduceSub, Int.reduceMul, Int.reduceNeg, Int.reduceToNat, Nat.reduceMul, Nat.reduceLT, Nat.reduceEqDiff, and_self, ite_true, ite_false, zx1, zx2, zRecv, List.length_cons, List.length_nil, ne_eq, not_true_eq_false, not_false_eq_true, true_or, or_true, or_false, false_or, and_false, false_and, zf01, zf10, reduceCtorEq, zSw_c, zSw_n, zm_r, zit_T, zit_F, false_implies, true_implies, zc_355, f_M_debts, g_M_debts, f_M_lesser, g_M_lesser])
    have hn := hM.n
    obtain ⟨g1, g2, g3⟩ := hgr j (by omega)
    rw [hn.2.2.2.2.2.1, g2]
    obtain ⟨hf1, hf2, hf3⟩ := hf
    refine zif (fun c => ?_) (fun c => ?_)
    · obtain ⟨d1, d2⟩ := hM.e (k := j) (by omega) (by omega)
      refine ⟨by ((try simp only [zI_e]); (first | done | omega | skip)), by omega, by omega, ?_⟩
      refine zCw.use (q_R_growsBy (d := 48) (by decide) hM (k := j) (by omega) (by omega)) (by omega) (fun q μ2 e => ?_)
      obtain ⟨rfl, hmf⟩ := e
      have hmx := hM.f hmf
      have k6 : μ2 357 (7 + 4 * (j : Int) + 2) = (dbt (grw Z F w A j).1 j).2.2.1 := by
        rw [hmf.2 357 (by decide)]
        exact congrArg (fun x => x.2.2.1) d1
      refine ⟨_, rfl, ?_⟩
      rw [← hmf.2 357 (by decide), k6]
      obtain ⟨o1, o2⟩ := grw_st (Z := Z) (F := F) (w := w) (A := (grw Z F w A j).1) (j := j) g1 (by omega)
      obtain ⟨i1, i2, i3⟩ := hgr (j + 1) (by omega)
      generalize hm2 : (dbt (grw Z F w A j).1 j).2.2.1 = m at *
      generalize hmm : m * odA Z F (grw Z F w A j).1 w j 1 = mg at *
      have et : mg.tdiv 100 = mg / 100 := Int.tdiv_eq_ediv_of_nonneg (by omega)
      have hm3 := d2.2.2.2.1
      rw [hm2] at hm3
      have e1 : min 9999 (m + mg / 100) = grI Z F w (grw Z F w A j).1 j := by
        unfold grI
        rw [hm2, hmm]
      have e2 : (grw Z F w A j).2 + (grI Z F w (grw Z F w A j).1 j - m) = (grw Z F w A (j + 1)).2 := by
        show _ = (grw Z F w A j).2 + (grI Z F w (grw Z F w A j).1 j - (dbt (grw Z F w A j).1 j).2.2.1)
        rw [hm2]
      refine ⟨by ((try simp only [zI_e]); (first | done | omega | skip)), by rw [et]; ((try simp only [zI_e]); (first | done | omega | skip)), by rw [et]; ((try simp only [zI_e]); (first | done | omega | skip)), ?_⟩
      rw [et]
      refine zCw.use (p_M_lesser _ _ trivial) (by omega) (fun q μ3 e => ?_)
      obtain ⟨rfl, e9⟩ := e
      rw [e9]
      refine ⟨_, rfl, ?_⟩
      rw [show f_M_lesser [vi 9999, vi (m + mg / 100)] μ2 = min 9999 (m + mg / 100) from rfl, e1, k6, e2]
      have hgi := (grS_ok (Z := Z) (F := F) (w := w) (d := j) g1 (by omega) (by omega)).2.2.2
      have hlo : 0 ≤ grI Z F w (grw Z F w A j).1 j := by rw [← e1]; omega
      have k71 : ∀ v : Int, zm μ2 357 (7 + 4 * (j : Int) + 2) v 357 71 = (A.2.1.length : Int) := fun v => by
        rw [zm_o (by omega), hmx.n.2.2.2.2.2.1, g2]
      refine ⟨⟨⟨by omega, by ((try simp only [zI_e]); (first | done | omega | skip))⟩, by rw [← e2] at i3; ((try simp only [zI_e]); (first | done | omega | skip))⟩, by omega, by omega, by ((try simp only [zI_e]); (first | done | omega | skip)), ?_⟩
      refine znx (by omega) ⟨_, _, rfl, ?_, fun i hi => ?_, fun i p q r s => (hmf.1 i p q r s).trans (hf2 i p q r s), (hf3.tr hmf.2).mo (by simp) |>.zm (by decide)⟩
      · refine hmx.up i1 (lgM_is ?_ ?_ ?_) (by rw [k71]; omega) (fun i hi => by rw [zm_o (by omega)])
        · refine Eq.trans (tL_congr (fun i a b => by rw [zm_o (by omega)])) hmx.n.2.2.2.2.2.2
        · rw [dbM_am (by rw [hmx.n.2.2.2.2.2.1]; omega) (by rw [hmx.n.2.2.2.2.2.1]; omega), hmx.n.2.2.1, (hmx.e (k := j) (by omega) (by omega)).1]
          rfl
        · rw [zm_o (by omega)]
          exact hmx.n.2.2.2.1
      · rw [zit_f (by omega), hmf.2 357 (by decide)]
        exact hf1 i hi
    · have : j = A.2.1.length := by omega
      subst this
      exact ⟨rfl, hM, hf1, hf2, hf3⟩

