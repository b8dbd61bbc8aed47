/-! secret debts -/
noncomputable def fnd (p : Int → Prop) (i : Int) : Nat → Int → Int → Int
  | 0, _, f => zit (i = -1) f (-1)
  | n + 1, k, f => zit (p k) (zit (f = i) k (fnd p i n (k + 1) (f + 1))) (fnd p i n (k + 1) f)
theorem fnd_skip {p : Int → Prop} {i : Int} : ∀ (m n : Nat) (k f : Int), (∀ x : Int, k ≤ x → x < k + m → ¬ p x) → fnd p i (n + m) k f = fnd p i n (k + m) f
  | 0, n, k, f, _ => by
    rw [Nat.add_zero, Int.natCast_zero, Int.add_zero]
  | m + 1, n, k, f, h => by
    rw [show n + (m + 1) = (n + m) + 1 by omega, fnd, zit_f (h k (by omega) (by omega)), fnd_skip m n (k + 1) f (fun x a b => h x (by omega) (by omega))]
    congr 1
    omega
theorem fnd_s {p : Int → Prop} {i f : Int} {N k : Nat} (h : k < N) : fnd p i (N - k) k f = zit (p k) (zit (f = i) k (fnd p i (N - (k + 1)) ((k + 1 : Nat) : Int) (f + 1))) (fnd p i (N - (k + 1)) ((k + 1 : Nat) : Int) f) := by
  rw [show N - k = (N - (k + 1)) + 1 by omega, fnd]
  rfl
noncomputable def scP (Z : Zt) (F : Option (List Cls)) (A : Lg) (w : Int → Int) (S : List D4) (k : Int) : Prop := ((0 ≤ k / 70 ∧ k / 70 < Z.1) ∧ (0 ≤ k / 10 % 7 ∧ k / 10 % 7 < Z.1) ∧ k / 70 ≠ k / 10 % 7) ∧ soA Z F A w S (k / 70) (k / 10 % 7) (20 * (k % 10 + 1))
def y_D_secret : zMt := (⟨"DebtDoors", "secret", "(I)I"⟩, prog_1_method_58_code, 6, some .int)
theorem d_D_secret_0 : decode prog_1_method_58_code 0 = .ok (.iload_n 1, 1) := by decide +kernel
theorem d_D_secret_1 : decode prog_1_method_58_code 1 = .ok (.iconst (-1), 1) := by decide +kernel
theorem d_D_secret_2 : decode prog_1_method_58_code 2 = .ok (.if_icmp .ge 5, 3) := by decide +kernel
theorem d_D_secret_5 : decode prog_1_method_58_code 5 = .ok (.iconst (-1), 1) := by decide +kernel
theorem d_D_secret_6 : decode prog_1_method_58_code 6 = .ok (.ireturn, 1) := by decide +kernel
theorem d_D_secret_7 : decode prog_1_method_58_code 7 = .ok (.iconst 0, 1) := by decide +kernel
theorem d_D_secret_8 : decode prog_1_method_58_code 8 = .ok (.istore_n 2, 1) := by decide +kernel
theorem d_D_secret_9 : decode prog_1_method_58_code 9 = .ok (.iconst 0, 1) := by decide +kernel
theorem d_D_secret_10 : decode prog_1_method_58_code 10 = .ok (.istore_n 3, 1) := by decide +kernel
theorem d_D_secret_11 : decode prog_1_method_58_code 11 = .ok (.iload_n 3, 1) := by decide +kernel
theorem d_D_secret_12 : decode prog_1_method_58_code 12 = .ok (.aload_n 0, 1) := by decide +kernel
theorem d_D_secret_13 : decode prog_1_method_58_code 13 = .ok (.getfield 12, 3) := by decide +kernel
theorem d_D_secret_16 : decode prog_1_method_58_code 16 = .ok (.getfield 112, 3) := by decide +kernel
theorem d_D_secret_19 : decode prog_1_method_58_code 19 = .ok (.if_icmp .ge 97, 3) := by decide +kernel
theorem d_D_secret_22 : decode prog_1_method_58_code 22 = .ok (.iconst 0, 1) := by decide +kernel
theorem d_D_secret_23 : decode prog_1_method_58_code 23 = .ok (.istore 4, 2) := by decide +kernel
theorem d_D_secret_25 : decode prog_1_method_58_code 25 = .ok (.iload 4, 2) := by decide +kernel
theorem d_D_secret_27 : decode prog_1_method_58_code 27 = .ok (.aload_n 0, 1) := by decide +kernel
theorem d_D_secret_28 : decode prog_1_method_58_code 28 = .ok (.getfield 12, 3) := by decide +kernel
theorem d_D_secret_31 : decode prog_1_method_58_code 31 = .ok (.getfield 112, 3) := by decide +kernel
theorem d_D_secret_34 : decode prog_1_method_58_code 34 = .ok (.if_icmp .ge 76, 3) := by decide +kernel
theorem d_D_secret_37 : decode prog_1_method_58_code 37 = .ok (.iload_n 3, 1) := by decide +kernel
theorem d_D_secret_38 : decode prog_1_method_58_code 38 = .ok (.iload 4, 2) := by decide +kernel
theorem d_D_secret_40 : decode prog_1_method_58_code 40 = .ok (.if_icmp .ne 6, 3) := by decide +kernel
theorem d_D_secret_43 : decode prog_1_method_58_code 43 = .ok (.goto 61, 3) := by decide +kernel
theorem d_D_secret_46 : decode prog_1_method_58_code 46 = .ok (.iconst 0, 1) := by decide +kernel
theorem d_D_secret_47 : decode prog_1_method_58_code 47 = .ok (.istore 5, 2) := by decide +kernel
theorem d_D_secret_49 : decode prog_1_method_58_code 49 = .ok (.iload 5, 2) := by decide +kernel
theorem d_D_secret_51 : decode prog_1_method_58_code 51 = .ok (.bipush 10, 2) := by decide +kernel
theorem d_D_secret_53 : decode prog_1_method_58_code 53 = .ok (.if_icmp .ge 51, 3) := by decide +kernel
theorem d_D_secret_56 : decode prog_1_method_58_code 56 = .ok (.aload_n 0, 1) := by decide +kernel
theorem d_D_secret_57 : decode prog_1_method_58_code 57 = .ok (.iload_n 3, 1) := by decide +kernel
theorem d_D_secret_58 : decode prog_1_method_58_code 58 = .ok (.iload 4, 2) := by decide +kernel
theorem d_D_secret_60 : decode prog_1_method_58_code 60 = .ok (.iload 5, 2) := by decide +kernel
theorem d_D_secret_62 : decode prog_1_method_58_code 62 = .ok (.iconst 1, 1) := by decide +kernel
theorem d_D_secret_63 : decode prog_1_method_58_code 63 = .ok (.iadd, 1) := by decide +kernel
theorem d_D_secret_64 : decode prog_1_method_58_code 64 = .ok (.bipush 20, 2) := by decide +kernel
theorem d_D_secret_66 : decode prog_1_method_58_code 66 = .ok (.imul, 1) := by decide +kernel
theorem d_D_secret_67 : decode prog_1_method_58_code 67 = .ok (.invokevirtual 405, 3) := by decide +kernel
theorem d_D_secret_70 : decode prog_1_method_58_code 70 = .ok (.ifCond .ne 6, 3) := by decide +kernel
theorem d_D_secret_73 : decode prog_1_method_58_code 73 = .ok (.goto 25, 3) := by decide +kernel
theorem d_D_secret_76 : decode prog_1_method_58_code 76 = .ok (.iload_n 2, 1) := by decide +kernel
theorem d_D_secret_77 : decode prog_1_method_58_code 77 = .ok (.iload_n 1, 1) := by decide +kernel
theorem d_D_secret_78 : decode prog_1_method_58_code 78 = .ok (.if_icmp .ne 17, 3) := by decide +kernel
theorem d_D_secret_81 : decode prog_1_method_58_code 81 = .ok (.iload_n 3, 1) := by decide +kernel
theorem d_D_secret_82 : decode prog_1_method_58_code 82 = .ok (.bipush 70, 2) := by decide +kernel
theorem d_D_secret_84 : decode prog_1_method_58_code 84 = .ok (.imul, 1) := by decide +kernel
theorem d_D_secret_85 : decode prog_1_method_58_code 85 = .ok (.iload 4, 2) := by decide +kernel
theorem d_D_secret_87 : decode prog_1_method_58_code 87 = .ok (.bipush 10, 2) := by decide +kernel
theorem d_D_secret_89 : decode prog_1_method_58_code 89 = .ok (.imul, 1) := by decide +kernel
theorem d_D_secret_90 : decode prog_1_method_58_code 90 = .ok (.iadd, 1) := by decide +kernel
theorem d_D_secret_91 : decode prog_1_method_58_code 91 = .ok (.iload 5, 2) := by decide +kernel
theorem d_D_secret_93 : decode prog_1_method_58_code 93 = .ok (.iadd, 1) := by decide +kernel
theorem d_D_secret_94 : decode prog_1_method_58_code 94 = .ok (.ireturn, 1) := by decide +kernel
theorem d_D_secret_95 : decode prog_1_method_58_code 95 = .ok (.iinc 2 1, 3) := by decide +kernel
theorem d_D_secret_98 : decode prog_1_method_58_code 98 = .ok (.iinc 5 1, 3) := by decide +kernel
theorem d_D_secret_101 : decode prog_1_method_58_code 101 = .ok (.goto (-52), 3) := by decide +kernel
theorem d_D_secret_104 : decode prog_1_method_58_code 104 = .ok (.iinc 4 1, 3) := by decide +kernel
theorem d_D_secret_107 : decode prog_1_method_58_code 107 = .ok (.goto (-82), 3) := by decide +kernel
theorem d_D_secret_110 : decode prog_1_method_58_code 110 = .ok (.iinc 3 1, 3) := by decide +kernel
theorem d_D_secret_113 : decode prog_1_method_58_code 113 = .ok (.goto (-102), 3) := by decide +kernel
theorem d_D_secret_116 : decode prog_1_method_58_code 116 = .ok (.iload_n 1, 1) := by decide +kernel
theorem d_D_secret_117 : decode prog_1_method_58_code 117 = .ok (.iconst (-1), 1) := by decide +kernel
theorem d_D_secret_118 : decode prog_1_method_58_code 118 = .ok (.if_icmp .ne 7, 3) := by decide +kernel
theorem d_D_secret_121 : decode prog_1_method_58_code 121 = .ok (.iload_n 2, 1) := by decide +kernel
theorem d_D_secret_122 : decode prog_1_method_58_code 122 = .ok (.goto 4, 3) := by decide +kernel
theorem d_D_secret_125 : decode prog_1_method_58_code 125 = .ok (.iconst (-1), 1) := by decide +kernel
theorem d_D_secret_126 : decode prog_1_method_58_code 126 = .ok (.ireturn, 1) := by decide +kernel
def w_D_secret {d : Nat} (hd : 1 ≤ d) := (show SS ("DebtDoors", prog_1_method_58_code, 6) (some .int) d 0 0 0 0 _ from (sS (p1 := 7) (sIf (pn := 7) (tt := 5) (xC (rNot (rJ2 (tgt := 7) j_ge (rIn 1 d_D_secret_0 rfl) (rI d_D_secret_1 rfl) d_D_secret_2 (by decide)))) (sRi (xE (rI d_D_secret_5 rfl)) d_D_secret_6 rfl)) (sS (p1 := 9) (sIn 2 (xE (rI d_D_secret_7 rfl)) d_D_secret_8 rfl (by decide)) (sS (p1 := 116) (sS (p1 := 11) (sIn 3 (xE (rI d_D_secret_9 rfl)) d_D_secret_10 rfl (by decide)) (sLp (ps := 110) (tt := 22) (pn := 116) (p1 := 0) (p2 := 0) (xC (rNot (rJ2 (tgt := 116) j_ge (rIn 3 d_D_secret_11 rfl) (rF 6 fl_D_112 nk_9_6 (rFr fl_D_12 nk_11_0 (rAn 0 d_D_secret_12 rfl) d_D_secret_13) d_D_secret_16 rfl) d_D_secret_19 (by decide)))) (sS (p1 := 25) (sI (xE (rI d_D_secret_22 rfl)) d_D_secret_23 (by decide)) (sLp (ps := 104) (tt := 37) (pn := 110) (p1 := 0) (p2 := 0) (xC (rNot (rJ2 (tgt := 110) j_ge (rIl d_D_secret_25) (rF 6 fl_D_112 nk_9_6 (rFr fl_D_12 nk_11_0 (rAn 0 d_D_secret_27 rfl) d_D_secret_28) d_D_secret_31 rfl) d_D_secret_34 (by decide)))) (sS (p1 := 46) (sIf (pn := 46) (tt := 104) (xC (rGt (p2 := 104) (rNot (rJ2 (tgt := 46) j_ne (rIn 3 d_D_secret_37 rfl) (rIl d_D_secret_38) d_D_secret_40 (by decide))) d_D_secret_43 (by decide))) sCo0) (sS (p1 := 49) (sI (xE (rI d_D_secret_46 rfl)) d_D_secret_47 (by decide)) (sLp (ps := 98) (tt := 56) (pn := 104) (p1 := 0) (p2 := 0) (xC (rNot (rJ2 (tgt := 104) j_ge (rIl d_D_secret_49) (rB d_D_secret_51 rfl) d_D_secret_53 (by decide)))) (sS (p1 := 76) (sIf (pn := 76) (tt := 98) (xNot (xGf (p2 := 98) (xJ1 (tgt := 76) k_ne (xV lv_D_405 (xA (rAi (rAi (rAi (rAr rA0 (rAn 0 d_D_secret_56 rfl)) (rIn 3 d_D_secret_57 rfl)) (rIl d_D_secret_58)) (r2 o_mul (r2 o_add (rIl d_D_secret_60) (rI d_D_secret_62 rfl) d_D_secret_63) (rB d_D_secret_64 rfl) d_D_secret_66))) (by decide) d_D_secret_67) d_D_secret_70 (by decide)) d_D_secret_73 (by decide))) sCo0) (sS (p1 := 95) (sIf (pn := 95) (tt := 81) (xC (rNot (rJ2 (tgt := 95) j_ne (rIn 2 d_D_secret_76 rfl) (rIn 1 d_D_secret_77 rfl) d_D_secret_78 (by decide)))) (sRi (xE (r2 o_add (r2 o_add (r2 o_mul (rIn 3 d_D_secret_81 rfl) (rB d_D_secret_82 rfl) d_D_secret_84) (r2 o_mul (rIl d_D_secret_85) (rB d_D_secret_87 rfl) d_D_secret_89) d_D_secret_90) (rIl d_D_secret_91) d_D_secret_93)) d_D_secret_94 rfl)) (sInc d_D_secret_95 (by decide)))) (sGo (pn := 49) (sInc d_D_secret_98 (by decide)) d_D_secret_101 (by decide))))) (sGo (pn := 25) (sInc d_D_secret_104 (by decide)) d_D_secret_107 (by decide)))) (sGo (pn := 11) (sInc d_D_secret_110 (by decide)) d_D_secret_113 (by decide)))) (sRi (xE (rT2 (rNot (rJ2 (tgt := 125) j_ne (rIn 1 d_D_secret_116 rfl) (rI d_D_secret_117 rfl) d_D_secret_118 (by decide))) (rGoE (p2 := 126) (rIn 2 d_D_secret_121 rfl) d_D_secret_122 (by decide)) (rI d_D_secret_125 rfl))) d_D_secret_126 rfl)))))
def y_M_secret : zMt := (⟨"DebtDoorsModel", "secret", "(I)I"⟩, prog_14_method_133_code, 6, some .int)
theorem d_M_secret_0 : decode prog_14_method_133_code 0 = .ok (.iload_n 1, 1) := by decide +kernel
theorem d_M_secret_1 : decode prog_14_method_133_code 1 = .ok (.iconst (-1), 1) := by decide +kernel
theorem d_M_secret_2 : decode prog_14_method_133_code 2 = .ok (.if_icmp .ge 5, 3) := by decide +kernel
theorem d_M_secret_5 : decode prog_14_method_133_code 5 = .ok (.iconst (-1), 1) := by decide +kernel
theorem d_M_secret_6 : decode prog_14_method_133_code 6 = .ok (.ireturn, 1) := by decide +kernel
theorem d_M_secret_7 : decode prog_14_method_133_code 7 = .ok (.iconst 0, 1) := by decide +kernel
theorem d_M_secret_8 : decode prog_14_method_133_code 8 = .ok (.istore_n 2, 1) := by decide +kernel
theorem d_M_secret_9 : decode prog_14_method_133_code 9 = .ok (.iconst 0, 1) := by decide +kernel
theorem d_M_secret_10 : decode prog_14_method_133_code 10 = .ok (.istore_n 3, 1) := by decide +kernel
theorem d_M_secret_11 : decode prog_14_method_133_code 11 = .ok (.iload_n 3, 1) := by decide +kernel
theorem d_M_secret_12 : decode prog_14_method_133_code 12 = .ok (.sipush 490, 3) := by decide +kernel
theorem d_M_secret_15 : decode prog_14_method_133_code 15 = .ok (.if_icmp .ge 68, 3) := by decide +kernel
theorem d_M_secret_18 : decode prog_14_method_133_code 18 = .ok (.iload_n 3, 1) := by decide +kernel
theorem d_M_secret_19 : decode prog_14_method_133_code 19 = .ok (.bipush 70, 2) := by decide +kernel
theorem d_M_secret_21 : decode prog_14_method_133_code 21 = .ok (.idiv, 1) := by decide +kernel
theorem d_M_secret_22 : decode prog_14_method_133_code 22 = .ok (.istore 4, 2) := by decide +kernel
theorem d_M_secret_24 : decode prog_14_method_133_code 24 = .ok (.iload_n 3, 1) := by decide +kernel
theorem d_M_secret_25 : decode prog_14_method_133_code 25 = .ok (.bipush 10, 2) := by decide +kernel
theorem d_M_secret_27 : decode prog_14_method_133_code 27 = .ok (.idiv, 1) := by decide +kernel
theorem d_M_secret_28 : decode prog_14_method_133_code 28 = .ok (.bipush 7, 2) := by decide +kernel
theorem d_M_secret_30 : decode prog_14_method_133_code 30 = .ok (.irem, 1) := by decide +kernel
theorem d_M_secret_31 : decode prog_14_method_133_code 31 = .ok (.istore 5, 2) := by decide +kernel
theorem d_M_secret_33 : decode prog_14_method_133_code 33 = .ok (.aload_n 0, 1) := by decide +kernel
theorem d_M_secret_34 : decode prog_14_method_133_code 34 = .ok (.iload 4, 2) := by decide +kernel
theorem d_M_secret_36 : decode prog_14_method_133_code 36 = .ok (.iload 5, 2) := by decide +kernel
theorem d_M_secret_38 : decode prog_14_method_133_code 38 = .ok (.invokevirtual 345, 3) := by decide +kernel
theorem d_M_secret_41 : decode prog_14_method_133_code 41 = .ok (.ifCond .eq 36, 3) := by decide +kernel
theorem d_M_secret_44 : decode prog_14_method_133_code 44 = .ok (.aload_n 0, 1) := by decide +kernel
theorem d_M_secret_45 : decode prog_14_method_133_code 45 = .ok (.iload 4, 2) := by decide +kernel
theorem d_M_secret_47 : decode prog_14_method_133_code 47 = .ok (.iload 5, 2) := by decide +kernel
theorem d_M_secret_49 : decode prog_14_method_133_code 49 = .ok (.bipush 20, 2) := by decide +kernel
theorem d_M_secret_51 : decode prog_14_method_133_code 51 = .ok (.iload_n 3, 1) := by decide +kernel
theorem d_M_secret_52 : decode prog_14_method_133_code 52 = .ok (.bipush 10, 2) := by decide +kernel
theorem d_M_secret_54 : decode prog_14_method_133_code 54 = .ok (.irem, 1) := by decide +kernel
theorem d_M_secret_55 : decode prog_14_method_133_code 55 = .ok (.iconst 1, 1) := by decide +kernel
theorem d_M_secret_56 : decode prog_14_method_133_code 56 = .ok (.iadd, 1) := by decide +kernel
theorem d_M_secret_57 : decode prog_14_method_133_code 57 = .ok (.imul, 1) := by decide +kernel
theorem d_M_secret_58 : decode prog_14_method_133_code 58 = .ok (.invokevirtual 468, 3) := by decide +kernel
theorem d_M_secret_61 : decode prog_14_method_133_code 61 = .ok (.ifCond .ne 6, 3) := by decide +kernel
theorem d_M_secret_64 : decode prog_14_method_133_code 64 = .ok (.goto 13, 3) := by decide +kernel
theorem d_M_secret_67 : decode prog_14_method_133_code 67 = .ok (.iload_n 2, 1) := by decide +kernel
theorem d_M_secret_68 : decode prog_14_method_133_code 68 = .ok (.iload_n 1, 1) := by decide +kernel
theorem d_M_secret_69 : decode prog_14_method_133_code 69 = .ok (.if_icmp .ne 5, 3) := by decide +kernel
theorem d_M_secret_72 : decode prog_14_method_133_code 72 = .ok (.iload_n 3, 1) := by decide +kernel
theorem d_M_secret_73 : decode prog_14_method_133_code 73 = .ok (.ireturn, 1) := by decide +kernel
theorem d_M_secret_74 : decode prog_14_method_133_code 74 = .ok (.iinc 2 1, 3) := by decide +kernel
theorem d_M_secret_77 : decode prog_14_method_133_code 77 = .ok (.iinc 3 1, 3) := by decide +kernel
theorem d_M_secret_80 : decode prog_14_method_133_code 80 = .ok (.goto (-69), 3) := by decide +kernel
theorem d_M_secret_83 : decode prog_14_method_133_code 83 = .ok (.iload_n 1, 1) := by decide +kernel
theorem d_M_secret_84 : decode prog_14_method_133_code 84 = .ok (.iconst (-1), 1) := by decide +kernel
theorem d_M_secret_85 : decode prog_14_method_133_code 85 = .ok (.if_icmp .ne 7, 3) := by decide +kernel
theorem d_M_secret_88 : decode prog_14_method_133_code 88 = .ok (.iload_n 2, 1) := by decide +kernel
theorem d_M_secret_89 : decode prog_14_method_133_code 89 = .ok (.goto 4, 3) := by decide +kernel
theorem d_M_secret_92 : decode prog_14_method_133_code 92 = .ok (.iconst (-1), 1) := by decide +kernel
theorem d_M_secret_93 : decode prog_14_method_133_code 93 = .ok (.ireturn, 1) := by decide +kernel
def w_M_secret {d : Nat} (hd : 4 ≤ d) := (show SS ("DebtDoorsModel", prog_14_method_133_code, 6) (some .int) d 0 0 0 0 _ from (sS (p1 := 7) (sIf (pn := 7) (tt := 5) (xC (rNot (rJ2 (tgt := 7) j_ge (rIn 1 d_M_secret_0 rfl) (rI d_M_secret_1 rfl) d_M_secret_2 (by decide)))) (sRi (xE (rI d_M_secret_5 rfl)) d_M_secret_6 rfl)) (sS (p1 := 9) (sIn 2 (xE (rI d_M_secret_7 rfl)) d_M_secret_8 rfl (by decide)) (sS (p1 := 83) (sS (p1 := 11) (sIn 3 (xE (rI d_M_secret_9 rfl)) d_M_secret_10 rfl (by decide)) (sLp (ps := 77) (tt := 18) (pn := 83) (p1 := 0) (p2 := 0) (xC (rNot (rJ2 (tgt := 83) j_ge (rIn 3 d_M_secret_11 rfl) (rSi d_M_secret_12 rfl) d_M_secret_15 (by decide)))) (sS (p1 := 24) (sI (xE (r2 o_div (rIn 3 d_M_secret_18 rfl) (rB d_M_secret_19 rfl) d_M_secret_21)) d_M_secret_22 (by decide)) (sS (p1 := 33) (sI (xE (r2 o_rem (r2 o_div (rIn 3 d_M_secret_24 rfl) (rB d_M_secret_25 rfl) d_M_secret_27) (rB d_M_secret_28 rfl) d_M_secret_30)) d_M_secret_31 (by decide)) (sS (p1 := 67) (sIf (pn := 67) (tt := 77) (xOr (mm := 44) (xC (rNot (rNot (rJ1 (tgt := 77) k_eq (rV p_M_areTwo (Nat.le_trans (Nat.le_of_ble_eq_true rfl) hd) lv_M_345 (rAi (rAi (rAr rA0 (rAn 0 d_M_secret_33 rfl)) (rIl d_M_secret_34)) (rIl d_M_secret_36)) (by decide) d_M_secret_38) d_M_secret_41 (by decide))))) (xNot (xGf (p2 := 77) (xJ1 (tgt := 67) k_ne (xV lv_M_468 (xA (rAi (rAi (rAi (rAr rA0 (rAn 0 d_M_secret_44 rfl)) (rIl d_M_secret_45)) (rIl d_M_secret_47)) (r2 o_mul (rB d_M_secret_49 rfl) (r2 o_add (r2 o_rem (rIn 3 d_M_secret_51 rfl) (rB d_M_secret_52 rfl) d_M_secret_54) (rI d_M_secret_55 rfl) d_M_secret_56) d_M_secret_57))) (by decide) d_M_secret_58) d_M_secret_61 (by decide)) d_M_secret_64 (by decide)))) sCo0) (sS (p1 := 74) (sIf (pn := 74) (tt := 72) (xC (rNot (rJ2 (tgt := 74) j_ne (rIn 2 d_M_secret_67 rfl) (rIn 1 d_M_secret_68 rfl) d_M_secret_69 (by decide)))) (sRi (xE (rIn 3 d_M_secret_72 rfl)) d_M_secret_73 rfl)) (sInc d_M_secret_74 (by decide)))))) (sGo (pn := 11) (sInc d_M_secret_77 (by decide)) d_M_secret_80 (by decide)))) (sRi (xE (rT2 (rNot (rJ2 (tgt := 92) j_ne (rIn 1 d_M_secret_83 rfl) (rI d_M_secret_84 rfl) d_M_secret_85 (by decide))) (rGoE (p2 := 93) (rIn 2 d_M_secret_88 rfl) d_M_secret_89 (by decide)) (rI d_M_secret_92 rfl))) d_M_secret_93 rfl)))))
set_option maxRecDepth 20000 in
theorem LC_secret {i : Int} : LC y_D_secret y_M_secret [vi i] := LC.tv (f := fun Z F A w V S => zit (i < -1) (-1) (fnd (scP Z F A w S) i 490 0 0)) (fun μ Z F A w V S h hV hS => by
    have hw := h.2.2.2.2.2
    have hn := h.1.1
    refine zCw.use (zSp.ss [vr 0, vi i, vx 0, vx 0, vx 0, vx 0] rfl (w_D_secret (d := 100) (by decide)) rfl rfl ?_) (by decide) (fun q μ' e => e)
    obtain ⟨N, hN⟩ : ∃ N : Nat, N = 490 := ⟨_, rfl⟩
    rw [← hN]
    (try simp only [zit_e, Bool.and_eq_true, Bool.or_eq_true, Bool.not_eq_true', Bool.and_eq_false_iff, Bool.or_eq_false_iff, Bool.not_eq_false', zbe, zdt, zdf, zb2_p, zbp_0, zbp_1, zbp_inj, zbp_01, Bool.true_eq_false, Bool.false_eq_true, true_and, and_true, Decidable.not_not, Classical.not_not, implies_true, List.nil_append, List.cons_append, List.append_assoc, Option.some.injEq, Sum.inl.injEq, zSw_c, zSw_n]); (try simp only [zit_e, Bool.and_eq_true, Bool.or_eq_true, Bool.not_eq_true', Bool.and_eq_false_iff, Bool.or_eq_false_iff, Bool.not_eq_false', zbe, zdt, zdf, zb2_p, zbp_0, zbp_1, zbp_inj, zbp_01, Bool.true_eq_false, Bool.false_eq_true, true_and, and_true, Decidable.not_not, Classical.not_not, implies_true, List.nil_append, List.cons_append, List.append_assoc, Option.some.injEq, Sum.inl.injEq, zSw_c, zSw_n, zc_0, zc_1, zc_2]); (try simp only [zi_cs, zi_c0, zii_cs, zii_c0, zl_cs, zl_c0, zll_cs, zll_c0, zr_cs, zr_c0, zrr_cs, zrr_c0, zxs_cs, zxs_c0, zxx_cs, zxx_c0, zfree_c0, zfree_c1, zfree_cs, zfree_cz, zlong_i, zlong_r, zlong_x, zset_0, zset_s, true_and, and_true, Option.some.injEq, Sum.inl.injEq, Sum.inr.injEq, zb2_p, zbp_0, zbp_1, zbp_inj, zbp_01, Nat.zero_add, Nat.reduceAdd, implies_true, List.nil_append, List.cons_append, List.append_assoc, Int.not_lt, Int.not_le, Decidable.not_not, Int.zero_add, Int.reduceLE, Int.reduceLT, Int.reduceEq, Int.reduceNe, Int.reduceAdd, Int.reduceSub, Int.reduceMul, Int.reduceNeg, Int.reduceToNat, Nat.reduceMul, Nat.reduceLT, Nat.reduceEqDiff, and_self, ite_true, ite_false, zx1, zx2, zRecv, List.length_cons, List.length_nil, ne_eq, not_true_eq_false, not_false_eq_true, true_or, or_true, or_false, false_or, and_false, false_and, zf01, zf10, reduceCtorEq, zSw_c, zSw_n, zm_r, zit_T, zit_F, false_implies, true_implies, zc_0, zc_1, zc_2])
    generalize hp : scP Z F A w S = p
    have hpd : ∀ d : Int, p d ↔ ((0 ≤ d / 70 ∧ d / 70 < Z.1) ∧ (0 ≤ d / 10 % 7 ∧ d / 10 % 7 < Z.1) ∧ d / 70 ≠ d / 10 % 7) ∧ soA Z F A w S (d / 70) (d / 10 % 7) (20 * (d % 10 + 1)) := fun d => by rw [← hp]; exact Iff.rfl
    refine zif (fun c => ⟨(zit_t c).symm, HM.rf, KC.rf⟩) (fun c => ?_)
    rw [zit_f c]
    refine zLoop.up Z.1.toNat (fun d ρ μ1 => ∃ (f : Int) (x4 x5 : zV), ρ = [vr 0, vi i, vi f, vi d, x4, x5] ∧ CF w μ μ1 ∧ (0 ≤ f ∧ f ≤ 70 * d) ∧ fnd p i N 0 0 = fnd p i (N - 70 * d) ((70 * d : Nat) : Int) f) ⟨0, _, _, rfl, CF.rf hw, by omega, rfl⟩ ?_
    rintro d ρ μ1 hj ⟨f, x4, x5, rfl, hF, hf, hq⟩
    have h1 := h.f hF
    have e6 := h1.2.2.1.1
    (try simp only [zit_e, Bool.and_eq_true, Bool.or_eq_true, Bool.not_eq_true', Bool.and_eq_false_iff, Bool.or_eq_false_iff, Bool.not_eq_false', zbe, zdt, zdf, zb2_p, zbp_0, zbp_1, zbp_inj, zbp_01, Bool.true_eq_false, Bool.false_eq_true, true_and, and_true, Decidable.not_not, Classical.not_not, implies_true, List.nil_append, List.cons_append, List.append_assoc, Option.some.injEq, Sum.inl.injEq, zSw_c, zSw_n]); (try simp only [zit_e, Bool.and_eq_true, Bool.or_eq_true, Bool.not_eq_true', Bool.and_eq_false_iff, Bool.or_eq_false_iff, Bool.not_eq_false', zbe, zdt, zdf, zb2_p, zbp_0, zbp_1, zbp_inj, zbp_01, Bool.true_eq_false, Bool.false_eq_true, true_and, and_true, Decidable.not_not, Classical.not_not, implies_true, List.nil_append, List.cons_append, List.append_assoc, Option.some.injEq, Sum.inl.injEq, zSw_c, zSw_n, zc_0, zc_1, zc_2]); (try simp only [zi_cs, zi_c0, zii_cs, zii_c0, zl_cs, zl_c0, zll_cs, zll_c0, zr_cs, zr_c0, zrr_cs, zrr_c0, zxs_cs, zxs_c0, zxx_cs, zxx_c0, zfree_c0, zfree_c1, zfree_cs, zfree_cz, zlong_i, zlong_r, zlong_x, zset_0, zset_s, true_and, and_true, Option.some.injEq, Sum.inl.injEq, Sum.inr.injEq, zb2_p, zbp_0, zbp_1, zbp_inj, zbp_01, Nat.zero_add, Nat.reduceAdd, implies_true, List.nil_append, List.cons_append, List.append_assoc, Int.not_lt, Int.not_le, Decidable.not_not, Int.zero_add, Int.reduceLE, Int.reduceLT, Int.reduceEq, Int.reduceNe, Int.reduceAdd, Int.reduceSub, Int.reduceMul, Int.reduceNeg, Int.reduceToNat, Nat.reduceMul, Nat.reduceLT, Nat.reduceEqDiff, and_self, ite_true, ite_false, zx1, zx2, zRecv, List.length_cons, List.length_nil, ne_eq, not_true_eq_false, not_false_eq_true, true_or, or_true, or_false, false_or, and_false, false_and, zf01, zf10, reduceCtorEq, zSw_c, zSw_n, zm_r, zit_T, zit_F, false_implies, true_implies, zc_0, zc_1, zc_2])
    rw [e6]
    refine zif (fun c0 => ?_) (fun c0 => ?_)
    · refine zLoop.up Z.1.toNat (fun c ρ μ2 => ∃ (f : Int) (x5 : zV), ρ = [vr 0, vi i, vi f, vi d, vi c, x5] ∧ CF w μ μ2 ∧ (0 ≤ f ∧ f ≤ 70 * d + 10 * c) ∧ fnd p i N 0 0 = fnd p i (N - (70 * d + 10 * c)) ((70 * d + 10 * c : Nat) : Int) f) ⟨f, _, rfl, hF, by omega, hq⟩ ?_
      clear hq hF h1 e6 hf f
      rintro c ρ μ2 hc ⟨f, x5, rfl, hF, hf, hq⟩
      have h1 := h.f hF
      have e6 := h1.2.2.1.1
      (try simp only [zit_e, Bool.and_eq_true, Bool.or_eq_true, Bool.not_eq_true', Bool.and_eq_false_iff, Bool.or_eq_false_iff, Bool.not_eq_false', zbe, zdt, zdf, zb2_p, zbp_0, zbp_1, zbp_inj, zbp_01, Bool.true_eq_false, Bool.false_eq_true, true_and, and_true, Decidable.not_not, Classical.not_not, implies_true, List.nil_append, List.cons_append, List.append_assoc, Option.some.injEq, Sum.inl.injEq, zSw_c, zSw_n]); (try simp only [zit_e, Bool.and_eq_true, Bool.or_eq_true, Bool.not_eq_true', Bool.and_eq_false_iff, Bool.or_eq_false_iff, Bool.not_eq_false', zbe, zdt, zdf, zb2_p, zbp_0, zbp_1, zbp_inj, zbp_01, Bool.true_eq_false, Bool.false_eq_true, true_and, and_true, Decidable.not_not, Classical.not_not, implies_true, List.nil_append, List.cons_append, List.append_assoc, Option.some.injEq, Sum.inl.injEq, zSw_c, zSw_n, zc_0, zc_1, zc_2]); (try simp only [zi_cs, zi_c0, zii_cs, zii_c0, zl_cs, zl_c0, zll_cs, zll_c0, zr_cs, zr_c0, zrr_cs, zrr_c0, zxs_cs, zxs_c0, zxx_cs, zxx_c0, zfree_c0, zfree_c1, zfree_cs, zfree_cz, zlong_i, zlong_r, zlong_x, zset_0, zset_s, true_and, and_true, Option.some.injEq, Sum.inl.injEq, Sum.inr.injEq, zb2_p, zbp_0, zbp_1, zbp_inj, zbp_01, Nat.zero_add, Nat.reduceAdd, implies_true, List.nil_append, List.cons_append, List.append_assoc, Int.not_lt, Int.not_le, Decidable.not_not, Int.zero_add, Int.reduceLE, Int.reduceLT, Int.reduceEq, Int.reduceNe, Int.reduceAdd, Int.reduceSub, Int.reduceMul, Int.reduceNeg, Int.reduceToNat, Nat.reduceMul, Nat.reduceLT, Nat.reduceEqDiff, and_self, ite_true, ite_false, zx1, zx2, zRecv, List.length_cons, List.length_nil, ne_eq, not_true_eq_false, not_false_eq_true, true_or, or_true, or_false, false_or, and_false, false_and, zf01, zf10, reduceCtorEq, zSw_c, zSw_n, zm_r, zit_T, zit_F, false_implies, true_implies, zc_0, zc_1, zc_2])
      rw [e6]
      refine zif (fun c1 => ?_) (fun c1 => ?_)
      · refine zif (fun c2 => ?_) (fun c2 => ?_)
        · refine ⟨zI_s (by omega) (by omega), Z.1.toNat - (c + 1), by omega, c + 1, rfl, by omega, f, _, rfl, hF, by omega, ?_⟩
          rw [hq, show N - (70 * d + 10 * c) = N - (70 * d + 10 * (c + 1)) + 10 by omega, fnd_skip]
          · congr 1
          · intro x a b q
            have := ((hpd x).mp q).1.2.2
            have g1 : x / 70 = d := by omega
            have g2 : x / 10 = 7 * d + c := by omega
            omega
        · refine zLoop.up 10 (fun s ρ μ3 => ∃ (f : Int), ρ = [vr 0, vi i, vi f, vi d, vi c, vi s] ∧ CF w μ μ3 ∧ (0 ≤ f ∧ f ≤ 70 * d + 10 * c + s) ∧ fnd p i N 0 0 = fnd p i (N - (70 * d + 10 * c + s)) ((70 * d + 10 * c + s : Nat) : Int) f) ⟨f, rfl, hF, by omega, hq⟩ ?_
          clear hq hF h1 e6 hf f
          rintro s ρ μ3 hs ⟨f, rfl, hF, hf, hq⟩
          have h1 := h.f hF
          have hS1 : VCx 20 9 1 μ3 S := hS.k (hF.1 1 (by decide)) (fun c p q => hF.1 c (by simp only [List.mem_cons, List.not_mem_nil, or_false]; omega))
          (try simp only [zit_e, Bool.and_eq_true, Bool.or_eq_true, Bool.not_eq_true', Bool.and_eq_false_iff, Bool.or_eq_false_iff, Bool.not_eq_false', zbe, zdt, zdf, zb2_p, zbp_0, zbp_1, zbp_inj, zbp_01, Bool.true_eq_false, Bool.false_eq_true, true_and, and_true, Decidable.not_not, Classical.not_not, implies_true, List.nil_append, List.cons_append, List.append_assoc, Option.some.injEq, Sum.inl.injEq, zSw_c, zSw_n]); (try simp only [zit_e, Bool.and_eq_true, Bool.or_eq_true, Bool.not_eq_true', Bool.and_eq_false_iff, Bool.or_eq_false_iff, Bool.not_eq_false', zbe, zdt, zdf, zb2_p, zbp_0, zbp_1, zbp_inj, zbp_01, Bool.true_eq_false, Bool.false_eq_true, true_and, and_true, Decidable.not_not, Classical.not_not, implies_true, List.nil_append, List.cons_append, List.append_assoc, Option.some.injEq, Sum.inl.injEq, zSw_c, zSw_n, zc_0, zc_1, zc_2]); (try simp only [zi_cs, zi_c0, zii_cs, zii_c0, zl_cs, zl_c0, zll_cs, zll_c0, zr_cs, zr_c0, zrr_cs, zrr_c0, zxs_cs, zxs_c0, zxx_cs, zxx_c0, zfree_c0, zfree_c1, zfree_cs, zfree_cz, zlong_i, zlong_r, zlong_x, zset_0, zset_s, true_and, and_true, Option.some.injEq, Sum.inl.injEq, Sum.inr.injEq, zb2_p, zbp_0, zbp_1, zbp_inj, zbp_01, Nat.zero_add, Nat.reduceAdd, implies_true, List.nil_append, List.cons_append, List.append_assoc, Int.not_lt, Int.not_le, Decidable.not_not, Int.zero_add, Int.reduceLE, Int.reduceLT, Int.reduceEq, Int.reduceNe, Int.reduceAdd, Int.reduceSub, Int.reduceMul, Int.reduceNeg, Int.reduceToNat, Nat.reduceMul, Nat.reduceLT, Nat.reduceEqDiff, and_self, ite_true, ite_false, zx1, zx2, zRecv, List.length_cons, List.length_nil, ne_eq, not_true_eq_false, not_false_eq_true, true_or, or_true, or_false, false_or, and_false, false_and, zf01, zf10, reduceCtorEq, zSw_c, zSw_n, zm_r, zit_T, zit_F, false_implies, true_implies, zc_0, zc_1, zc_2])
          refine zif (fun c3 => ?_) (fun c3 => ?_)
          · have b1 := owA (a := d) (b := c) h.2.1
            refine ⟨?_, ?_⟩
            · ((repeat' apply And.intro) <;> (first | omega | (simp only [zI_e]; omega) | exact True.intro))
            refine zCw.use (q_D_scuffsAreSo (d := 7) (by decide) h1 hS1 (by omega)) (by omega) (fun q μ4 e => ?_)
            obtain ⟨rfl, e2⟩ := e
            rw [fnd_s (by omega)] at hq
            have hpk : p ((70 * d + 10 * c + s : Nat) : Int) ↔ soA Z F A w S d c (((s : Int) + 1) * 20) := by
              rw [hpd, show ((70 * d + 10 * c + s : Nat) : Int) / 70 = d by omega, show ((70 * d + 10 * c + s : Nat) : Int) / 10 % 7 = c by omega, show 20 * (((70 * d + 10 * c + s : Nat) : Int) % 10 + 1) = ((s : Int) + 1) * 20 by omega]
              exact ⟨fun q => q.2, fun q => ⟨by omega, q⟩⟩
            refine ⟨_, rfl, ?_⟩
            refine zif (fun c4 => ?_) (fun c4 => ?_)
            all_goals rw [zbp_0] at c4
            · rw [zit_f (fun q => c4 (hpk.mp q))] at hq
              exact ⟨zI_s (by omega) (by omega), 10 - (s + 1), by omega, s + 1, rfl, by omega, f, rfl, hF.tr e2, by omega, hq⟩
            · rw [zit_t (hpk.mpr (Classical.not_not.mp c4))] at hq
              refine zif (fun c5 => ?_) (fun c5 => ?_)
              · rw [zit_t c5] at hq
                refine ⟨?_, ?_, (hF.tr e2).hm, (hF.tr e2).kc⟩
                · ((repeat' apply And.intro) <;> (first | omega | (simp only [zI_e]; omega) | exact True.intro))
                · rw [hq]
                  omega
              · rw [zit_f c5] at hq
                exact ⟨zI_s (by omega) (by omega), zI_s (by omega) (by omega), 10 - (s + 1), by omega, s + 1, rfl, by omega, f + 1, rfl, hF.tr e2, by omega, hq⟩
          · have es : s = 10 := by omega
            subst es
            exact ⟨zI_s (by omega) (by omega), Z.1.toNat - (c + 1), by omega, c + 1, rfl, by omega, f, _, rfl, hF, by omega, hq⟩
      · have ec : (c : Int) = Z.1 := by omega
        refine ⟨zI_s (by omega) (by omega), Z.1.toNat - (d + 1), by omega, d + 1, rfl, by omega, f, _, _, rfl, hF, by omega, ?_⟩
        rw [hq, show N - (70 * d + 10 * c) = N - 70 * (d + 1) + (70 - 10 * c) by omega, fnd_skip]
        · congr 1
          omega
        · intro x a b q
          have := ((hpd x).mp q).1.2.1.2
          omega
    · have ed : (d : Int) = Z.1 := by omega
      have hz : fnd p i N 0 0 = fnd p i 0 490 f := by
        rw [hq, show N - 70 * d = 0 + (490 - 70 * d) by omega, fnd_skip]
        · congr 1
          omega
        · intro x a b q
          have := ((hpd x).mp q).1.1.2
          omega
      rw [hz, fnd]
      exact ⟨rfl, hF.hm, hF.kc⟩) (fun μ Z F A w V S h hV hS => by
    have hn := h.1.1
    refine zCw.use (zSp.ss [vr 355, vi i, vx 0, vx 0, vx 0, vx 0] rfl (w_M_secret (d := 100) (by decide)) rfl rfl ?_) (by decide) (fun q μ' e => e)
    obtain ⟨N, hN⟩ : ∃ N : Nat, N = 490 := ⟨_, rfl⟩
    rw [← hN]
    (try simp only [zit_e, Bool.and_eq_true, Bool.or_eq_true, Bool.not_eq_true', Bool.and_eq_false_iff, Bool.or_eq_false_iff, Bool.not_eq_false', zbe, zdt, zdf, zb2_p, zbp_0, zbp_1, zbp_inj, zbp_01, Bool.true_eq_false, Bool.false_eq_true, true_and, and_true, Decidable.not_not, Classical.not_not, implies_true, List.nil_append, List.cons_append, List.append_assoc, Option.some.injEq, Sum.inl.injEq, zSw_c, zSw_n]); (try simp only [zit_e, Bool.and_eq_true, Bool.or_eq_true, Bool.not_eq_true', Bool.and_eq_false_iff, Bool.or_eq_false_iff, Bool.not_eq_false', zbe, zdt, zdf, zb2_p, zbp_0, zbp_1, zbp_inj, zbp_01, Bool.true_eq_false, Bool.false_eq_true, true_and, and_true, Decidable.not_not, Classical.not_not, implies_true, List.nil_append, List.cons_append, List.append_assoc, Option.some.injEq, Sum.inl.injEq, zSw_c, zSw_n, zc_355]); (try simp only [zi_cs, zi_c0, zii_cs, zii_c0, zl_cs, zl_c0, zll_cs, zll_c0, zr_cs, zr_c0, zrr_cs, zrr_c0, zxs_cs, zxs_c0, zxx_cs, zxx_c0, zfree_c0, zfree_c1, zfree_cs, zfree_cz, zlong_i, zlong_r, zlong_x, zset_0, zset_s, true_and, and_true, Option.some.injEq, Sum.inl.injEq, Sum.inr.injEq, zb2_p, zbp_0, zbp_1, zbp_inj, zbp_01, Nat.zero_add, Nat.reduceAdd, implies_true, List.nil_append, List.cons_append, List.append_assoc, Int.not_lt, Int.not_le, Decidable.not_not, Int.zero_add, Int.reduceLE, Int.reduceLT, Int.reduceEq, Int.reduceNe, Int.reduceAdd, Int.reduceSub, Int.reduceMul, Int.reduceNeg, Int.reduceToNat, Nat.reduceMul, Nat.reduceLT, Nat.reduceEqDiff, and_self, ite_true, ite_false, zx1, zx2, zRecv, List.length_cons, List.length_nil, ne_eq, not_true_eq_false, not_false_eq_true, true_or, or_true, or_false, false_or, and_false, false_and, zf01, zf10, reduceCtorEq, zSw_c, zSw_n, zm_r, zit_T, zit_F, false_implies, true_implies, zc_355])
    generalize hp : scP Z F A w S = p
    have hpd : ∀ d : Int, p d ↔ ((0 ≤ d / 70 ∧ d / 70 < Z.1) ∧ (0 ≤ d / 10 % 7 ∧ d / 10 % 7 < Z.1) ∧ d / 70 ≠ d / 10 % 7) ∧ soA Z F A w S (d / 70) (d / 10 % 7) (20 * (d % 10 + 1)) := fun d => by rw [← hp]; exact Iff.rfl
    refine zif (fun c => ⟨(zit_t c).symm, HC.rf, KM.rf⟩) (fun c => ?_)
    rw [zit_f c]
    refine zLoop.up N (fun k ρ μ1 => ∃ (f : Int) (x4 x5 : zV), ρ = [vr 355, vi i, vi f, vi k, x4, x5] ∧ MF μ μ1 ∧ (0 ≤ f ∧ f ≤ k) ∧ fnd p i N 0 0 = fnd p i (N - k) k f) ⟨0, _, _, rfl, MF.rf, by omega, rfl⟩ ?_
    rintro k ρ μ1 hj ⟨f, x4, x5, rfl, hF, hf, hq⟩
    have h1 := h.f hF
    have e6 := h1.2.2.1.1
    have hS1 : VMx 119 154 1 μ1 S := hS.k (hF.2 357 (by decide))
    (try simp only [zit_e, Bool.and_eq_true, Bool.or_eq_true, Bool.not_eq_true', Bool.and_eq_false_iff, Bool.or_eq_false_iff, Bool.not_eq_false', zbe, zdt, zdf, zb2_p, zbp_0, zbp_1, zbp_inj, zbp_01, Bool.true_eq_false, Bool.false_eq_true, true_and, and_true, Decidable.not_not, Classical.not_not, implies_true, List.nil_append, List.cons_append, List.append_assoc, Option.some.injEq, Sum.inl.injEq, zSw_c, zSw_n]); (try simp only [zit_e, Bool.and_eq_true, Bool.or_eq_true, Bool.not_eq_true', Bool.and_eq_false_iff, Bool.or_eq_false_iff, Bool.not_eq_false', zbe, zdt, zdf, zb2_p, zbp_0, zbp_1, zbp_inj, zbp_01, Bool.true_eq_false, Bool.false_eq_true, true_and, and_true, Decidable.not_not, Classical.not_not, implies_true, List.nil_append, List.cons_append, List.append_assoc, Option.some.injEq, Sum.inl.injEq, zSw_c, zSw_n, zc_355, f_M_areTwo, g_M_areTwo]); (try simp only [zi_cs, zi_c0, zii_cs, zii_c0, zl_cs, zl_c0, zll_cs, zll_c0, zr_cs, zr_c0, zrr_cs, zrr_c0, zxs_cs, zxs_c0, zxx_cs, zxx_c0, zfree_c0, zfree_c1, zfree_cs, zfree_cz, zlong_i, zlong_r, zlong_x, zset_0, zset_s, true_and, and_true, Option.some.injEq, Sum.inl.injEq, Sum.inr.injEq, zb2_p, zbp_0, zbp_1, zbp_inj, zbp_01, Nat.zero_add, Nat.reduceAdd, implies_true, List.nil_append, List.cons_append, List.append_assoc, Int.not_lt, Int.not_le, Decidable.not_not, Int.zero_add, Int.reduceLE, Int.reduceLT, Int.reduceEq, Int.reduceNe, Int.reduceAdd, Int.reduceSub, Int.reduceMul, Int.reduceNeg, Int.reduceToNat, Nat.reduceMul, Nat.reduceLT, Nat.reduceEqDiff, and_self, ite_true, ite_false, zx1, zx2, zRecv, List.length_cons, List.length_nil, ne_eq, not_true_eq_false, not_false_eq_true, true_or, or_true, or_false, false_or, and_false, false_and, zf01, zf10, reduceCtorEq, zSw_c, zSw_n, zm_r, zit_T, zit_F, false_implies, true_implies, zc_355, f_M_areTwo, g_M_areTwo])
    rw [e6, Int.tdiv_eq_ediv_of_nonneg (show 0 ≤ (k : Int) by omega), Int.tdiv_eq_ediv_of_nonneg (show 0 ≤ (k : Int) by omega), Int.tmod_eq_emod_of_nonneg (show 0 ≤ (k : Int) by omega)]
    rw [Int.tmod_eq_emod_of_nonneg (show 0 ≤ (k : Int) / 10 by omega)]
    refine zif (fun c0 => ?_) (fun c0 => ?_)
    · refine ⟨zI_s (by omega) (by omega), zI_s (by omega) (by omega), hn, ?_⟩
      have hq0 := fnd_s (p := p) (i := i) (f := f) (N := N) (k := k) (by omega)
      rw [hq0] at hq
      have nx : ∀ {f2 : Int} {y4 y5 : zV} {μ2 : zMem}, MF μ μ2 → (0 ≤ f2 ∧ f2 ≤ (k : Int) + 1) → fnd p i N 0 0 = fnd p i (N - (k + 1)) ((k + 1 : Nat) : Int) f2 → zI ((k : Int) + 1) ∧ ∃ m', m' < N - k ∧ ∃ j', m' = N - j' ∧ j' ≤ N ∧ ∃ f_1 x4 x5, [vr 355, vi i, vi f2, vi ((k : Int) + 1), y4, y5] = [vr 355, vi i, vi f_1, vi j', x4, x5] ∧ MF μ μ2 ∧ (0 ≤ f_1 ∧ f_1 ≤ j') ∧ fnd p i N 0 0 = fnd p i (N - j') j' f_1 := by
        intro f2 y4 y5 μ2 q1 q2 q3
        exact ⟨zI_s (by omega) (by omega), N - (k + 1), by omega, k + 1, rfl, by omega, f2, y4, y5, rfl, q1, by omega, q3⟩
      refine zif (fun c1 => ?_) (fun c1 => ?_)
      · rw [zit_f (fun q => by have := ((hpd k).mp q).1; omega)] at hq
        exact nx hF (by omega) hq
      · have b1 := owA (a := (k : Int) / 70) (b := (k : Int) / 10 % 7) h.2.1
        refine ⟨⟨zI_s (by omega) (by omega), zI_s (by omega) (by omega)⟩, ?_⟩
        refine zCw.use (q_M_areSo (d := 49) (by decide) h1 hS1 (by omega)) (by omega) (fun q μ2 e => ?_)
        obtain ⟨rfl, e2⟩ := e
        refine ⟨_, rfl, ?_⟩
        refine zif (fun c4 => ?_) (fun c4 => ?_)
        all_goals rw [zbp_0] at c4
        · rw [zit_f (fun q => c4 ((hpd k).mp q).2)] at hq
          exact nx (hF.tr e2) (by omega) hq
        · rw [zit_t ((hpd k).mpr ⟨by omega, Classical.not_not.mp c4⟩)] at hq
          refine zif (fun c5 => ?_) (fun c5 => ?_)
          · rw [zit_t c5] at hq
            exact ⟨hq.symm, (hF.tr e2).hc, (hF.tr e2).km⟩
          · rw [zit_f c5] at hq
            exact ⟨zI_s (by omega) (by omega), nx (hF.tr e2) (by omega) hq⟩
    · have ek : k = N := by omega
      subst ek
      rw [Nat.sub_self, fnd] at hq
      exact ⟨hq.symm, hF.hc, hF.km⟩)

