/-! the fewest payments -/
theorem zandn_all : (List.range 128).all (fun s => (List.range 7).all (fun p => !(s.testBit p) || (zand (s : Int) (zxor (zshl 1 (p : Int)) (-1)) == (s : Int) - ((2 ^ p : Nat) : Int)))) = true := by decide +kernel
theorem zandn {s p : Int} (h0 : 0 ≤ s) (h1 : s < 128) (h2 : 0 ≤ p) (h3 : p < 7) (h : zbit s p) : zand s (zxor (zshl 1 p) (-1)) = s - ((2 ^ p.toNat : Nat) : Int) := by
  have h4 := List.all_eq_true.mp (List.all_eq_true.mp zandn_all s.toNat (List.mem_range.mpr (by omega))) p.toNat (List.mem_range.mpr (by omega))
  unfold zbit at h
  rw [h] at h4
  simp only [Bool.not_true, Bool.false_or, beq_iff_eq] at h4
  rw [show ((s.toNat : Nat) : Int) = s by omega, show ((p.toNat : Nat) : Int) = p by omega] at h4
  exact h4
theorem zbit_le {s p : Int} (h0 : 0 ≤ s) (h : zbit s p) : 1 ≤ ((2 ^ p.toNat : Nat) : Int) ∧ ((2 ^ p.toNat : Nat) : Int) ≤ s := by
  unfold zbit at h
  have h1 := Nat.ge_two_pow_of_testBit h
  have h2 := Nat.one_le_two_pow (n := p.toNat)
  omega
noncomputable def mxG (G : Int → Int) (s : Int) : Nat → Int
  | 0 => 0
  | k + 1 => zit (zbit s k) (max (mxG G s k) (G (s - ((2 ^ k : Nat) : Int)))) (mxG G s k)
noncomputable def smB (b : Int → Int) (s : Int) : Nat → Int
  | 0 => 0
  | k + 1 => smB b s k + zit (zbit s k) (b k) 0
noncomputable def gT (b : Int → Int) (n : Nat) : Nat → Int → Int
  | 0 => fun _ => 0
  | s + 1 => fun x => zit (x = ((s : Int) + 1)) (mxG (gT b n s) ((s : Int) + 1) n + zit (smB b ((s : Int) + 1) n = 0) 1 0) (gT b n s x)
theorem mxG_in {G : Int → Int} {s m : Int} (hm : 0 ≤ m) (h : ∀ x, 0 ≤ G x ∧ G x ≤ m) : ∀ k : Nat, 0 ≤ mxG G s k ∧ mxG G s k ≤ m
  | 0 => by
    unfold mxG
    omega
  | k + 1 => by
    have h1 := mxG_in (s := s) hm h k
    have h2 := h (s - ((2 ^ k : Nat) : Int))
    unfold mxG zit
    split <;> omega
theorem smB_in {b : Int → Int} {s : Int} (h : ∀ x, -160000 ≤ b x ∧ b x ≤ 160000) : ∀ k : Nat, -(160000 * (k : Int)) ≤ smB b s k ∧ smB b s k ≤ 160000 * k
  | 0 => by
    unfold smB
    omega
  | k + 1 => by
    have h1 := smB_in (s := s) h k
    have h2 := h k
    unfold smB zit
    split <;> omega
theorem gT_in {b : Int → Int} {n : Nat} : ∀ (s : Nat) (x : Int), 0 ≤ gT b n s x ∧ gT b n s x ≤ s
  | 0, x => by
    unfold gT
    omega
  | s + 1, x => by
    have h1 := fun x => gT_in (b := b) (n := n) s x
    have h2 := mxG_in (G := gT b n s) (s := ((s : Int) + 1)) (m := s) (by omega) h1 n
    have h3 := h1 x
    unfold gT zit
    split
    · split <;> omega
    · omega
theorem gT_o {b : Int → Int} {n s : Nat} {x : Int} (h : x ≠ ((s : Int) + 1)) : gT b n (s + 1) x = gT b n s x := by
  show zit _ _ _ = _
  rw [zit_f h]
theorem gT_s {b : Int → Int} {n s : Nat} : gT b n (s + 1) ((s : Int) + 1) = mxG (gT b n s) ((s : Int) + 1) n + zit (smB b ((s : Int) + 1) n = 0) 1 0 := by
  show zit _ _ _ = _
  rw [zit_t rfl]
theorem blL_l {p : Int} : ∀ {l : List D4}, (∀ x, x ∈ l → okd x) → -(9999 * (l.length : Int)) ≤ blL p l ∧ blL p l ≤ 9999 * l.length
  | [], _ => by simp [blL]
  | (a, b, m, s) :: l, h => by
    have h1 := blL_l (p := p) (l := l) (fun x hx => h x (List.mem_cons_of_mem _ hx))
    have h2 := (h (a, b, m, s) List.mem_cons_self).2.2.2.1
    rw [blL, List.length_cons]
    simp only at h2
    split
    · omega
    · split <;> omega
theorem blA {A : Lg} (h : okA A) (p : Int) : -160000 ≤ blL p A.2.1 ∧ blL p A.2.1 ≤ 160000 := by
  have := blL_l (p := p) h.2.1.2
  have := h.2.1.1
  omega
/-- how many are not even -/
noncomputable def unB (b : Int → Int) : Nat → Int
  | 0 => 0
  | k + 1 => unB b k + zit (b k ≠ 0) 1 0
theorem unB_in {b : Int → Int} : ∀ k : Nat, 0 ≤ unB b k ∧ unB b k ≤ k
  | 0 => by
    unfold unB
    omega
  | k + 1 => by
    have h1 := unB_in (b := b) k
    unfold unB zit
    split <;> omega
theorem p2_7 {n : Nat} (h : n ≤ 7) : 1 ≤ 2 ^ n ∧ 2 ^ n ≤ 128 := ⟨Nat.one_le_two_pow, Nat.pow_le_pow_right (n := 2) (by decide) h⟩
noncomputable def pmA (Z : Zt) (A : Lg) : Int := Z.1 - gT (fun p => blL p A.2.1) Z.1.toNat (2 ^ Z.1.toNat - 1) ((2 ^ Z.1.toNat - 1 : Nat) : Int)
theorem fl_Cl_45 : zFl "DebtDoors$Clearing" 45 9 6 := ⟨_, rfl, by decide, (zTb_in 249 (by decide +kernel) (by decide +kernel)), rfl⟩
theorem nk_0_1 : zNk 0 1 = none := rfl
theorem lv_Cl_79 : zLv "DebtDoors$Clearing" 79 y_Le_balanceOf 1 1 := ⟨⟨(zTb_in 1242 (by decide +kernel) (by decide +kernel)), m_Le_balanceOf.1, m_Le_balanceOf.2.1, m_Le_balanceOf.2.2⟩, _, rfl, rfl⟩
theorem fl_Cl_24 : zFl "DebtDoors$Clearing" 24 9 0 := ⟨_, rfl, by decide, (zTb_in 228 (by decide +kernel) (by decide +kernel)), rfl⟩
theorem nk_0_2 : zNk 0 2 = none := rfl
theorem km_Cl_82 : Cond.methodLink "DebtDoors$Clearing" 82 Lib.Math.max.name ∈ zTb := (zTb_in 1243 (by decide +kernel) (by decide +kernel))
def y_Cl_fewestPayments : zMt := (⟨"DebtDoors$Clearing", "fewestPayments", "(LDebtDoors$Town;)I"⟩, prog_2_method_7_code, 7, some .int)
theorem d_Cl_fewestPayments_0 : decode prog_2_method_7_code 0 = .ok (.iconst 0, 1) := by decide +kernel
theorem d_Cl_fewestPayments_1 : decode prog_2_method_7_code 1 = .ok (.istore_n 2, 1) := by decide +kernel
theorem d_Cl_fewestPayments_2 : decode prog_2_method_7_code 2 = .ok (.iload_n 2, 1) := by decide +kernel
theorem d_Cl_fewestPayments_3 : decode prog_2_method_7_code 3 = .ok (.aload_n 1, 1) := by decide +kernel
theorem d_Cl_fewestPayments_4 : decode prog_2_method_7_code 4 = .ok (.getfield 45, 3) := by decide +kernel
theorem d_Cl_fewestPayments_7 : decode prog_2_method_7_code 7 = .ok (.if_icmp .ge 23, 3) := by decide +kernel
theorem d_Cl_fewestPayments_10 : decode prog_2_method_7_code 10 = .ok (.aload_n 0, 1) := by decide +kernel
theorem d_Cl_fewestPayments_11 : decode prog_2_method_7_code 11 = .ok (.getfield 15, 3) := by decide +kernel
theorem d_Cl_fewestPayments_14 : decode prog_2_method_7_code 14 = .ok (.iload_n 2, 1) := by decide +kernel
theorem d_Cl_fewestPayments_15 : decode prog_2_method_7_code 15 = .ok (.aload_n 1, 1) := by decide +kernel
theorem d_Cl_fewestPayments_16 : decode prog_2_method_7_code 16 = .ok (.getfield 24, 3) := by decide +kernel
theorem d_Cl_fewestPayments_19 : decode prog_2_method_7_code 19 = .ok (.iload_n 2, 1) := by decide +kernel
theorem d_Cl_fewestPayments_20 : decode prog_2_method_7_code 20 = .ok (.invokevirtual 79, 3) := by decide +kernel
theorem d_Cl_fewestPayments_23 : decode prog_2_method_7_code 23 = .ok (.iastore, 1) := by decide +kernel
theorem d_Cl_fewestPayments_24 : decode prog_2_method_7_code 24 = .ok (.iinc 2 1, 3) := by decide +kernel
theorem d_Cl_fewestPayments_27 : decode prog_2_method_7_code 27 = .ok (.goto (-25), 3) := by decide +kernel
theorem d_Cl_fewestPayments_30 : decode prog_2_method_7_code 30 = .ok (.aload_n 0, 1) := by decide +kernel
theorem d_Cl_fewestPayments_31 : decode prog_2_method_7_code 31 = .ok (.getfield 18, 3) := by decide +kernel
theorem d_Cl_fewestPayments_34 : decode prog_2_method_7_code 34 = .ok (.iconst 0, 1) := by decide +kernel
theorem d_Cl_fewestPayments_35 : decode prog_2_method_7_code 35 = .ok (.iconst 0, 1) := by decide +kernel
theorem d_Cl_fewestPayments_36 : decode prog_2_method_7_code 36 = .ok (.iastore, 1) := by decide +kernel
theorem d_Cl_fewestPayments_37 : decode prog_2_method_7_code 37 = .ok (.iconst 1, 1) := by decide +kernel
theorem d_Cl_fewestPayments_38 : decode prog_2_method_7_code 38 = .ok (.aload_n 1, 1) := by decide +kernel
theorem d_Cl_fewestPayments_39 : decode prog_2_method_7_code 39 = .ok (.getfield 45, 3) := by decide +kernel
theorem d_Cl_fewestPayments_42 : decode prog_2_method_7_code 42 = .ok (.ishl, 1) := by decide +kernel
theorem d_Cl_fewestPayments_43 : decode prog_2_method_7_code 43 = .ok (.iconst 1, 1) := by decide +kernel
theorem d_Cl_fewestPayments_44 : decode prog_2_method_7_code 44 = .ok (.isub, 1) := by decide +kernel
theorem d_Cl_fewestPayments_45 : decode prog_2_method_7_code 45 = .ok (.istore_n 2, 1) := by decide +kernel
theorem d_Cl_fewestPayments_46 : decode prog_2_method_7_code 46 = .ok (.iconst 1, 1) := by decide +kernel
theorem d_Cl_fewestPayments_47 : decode prog_2_method_7_code 47 = .ok (.istore_n 3, 1) := by decide +kernel
theorem d_Cl_fewestPayments_48 : decode prog_2_method_7_code 48 = .ok (.iload_n 3, 1) := by decide +kernel
theorem d_Cl_fewestPayments_49 : decode prog_2_method_7_code 49 = .ok (.iload_n 2, 1) := by decide +kernel
theorem d_Cl_fewestPayments_50 : decode prog_2_method_7_code 50 = .ok (.if_icmp .gt 94, 3) := by decide +kernel
theorem d_Cl_fewestPayments_53 : decode prog_2_method_7_code 53 = .ok (.iconst 0, 1) := by decide +kernel
theorem d_Cl_fewestPayments_54 : decode prog_2_method_7_code 54 = .ok (.istore 4, 2) := by decide +kernel
theorem d_Cl_fewestPayments_56 : decode prog_2_method_7_code 56 = .ok (.iconst 0, 1) := by decide +kernel
theorem d_Cl_fewestPayments_57 : decode prog_2_method_7_code 57 = .ok (.istore 5, 2) := by decide +kernel
theorem d_Cl_fewestPayments_59 : decode prog_2_method_7_code 59 = .ok (.iconst 0, 1) := by decide +kernel
theorem d_Cl_fewestPayments_60 : decode prog_2_method_7_code 60 = .ok (.istore 6, 2) := by decide +kernel
theorem d_Cl_fewestPayments_62 : decode prog_2_method_7_code 62 = .ok (.iload 6, 2) := by decide +kernel
theorem d_Cl_fewestPayments_64 : decode prog_2_method_7_code 64 = .ok (.aload_n 1, 1) := by decide +kernel
theorem d_Cl_fewestPayments_65 : decode prog_2_method_7_code 65 = .ok (.getfield 45, 3) := by decide +kernel
theorem d_Cl_fewestPayments_68 : decode prog_2_method_7_code 68 = .ok (.if_icmp .ge 50, 3) := by decide +kernel
theorem d_Cl_fewestPayments_71 : decode prog_2_method_7_code 71 = .ok (.iload_n 3, 1) := by decide +kernel
theorem d_Cl_fewestPayments_72 : decode prog_2_method_7_code 72 = .ok (.iload 6, 2) := by decide +kernel
theorem d_Cl_fewestPayments_74 : decode prog_2_method_7_code 74 = .ok (.ishr, 1) := by decide +kernel
theorem d_Cl_fewestPayments_75 : decode prog_2_method_7_code 75 = .ok (.iconst 1, 1) := by decide +kernel
theorem d_Cl_fewestPayments_76 : decode prog_2_method_7_code 76 = .ok (.iand, 1) := by decide +kernel
theorem d_Cl_fewestPayments_77 : decode prog_2_method_7_code 77 = .ok (.ifCond .eq 35, 3) := by decide +kernel
theorem d_Cl_fewestPayments_80 : decode prog_2_method_7_code 80 = .ok (.iload 4, 2) := by decide +kernel
theorem d_Cl_fewestPayments_82 : decode prog_2_method_7_code 82 = .ok (.aload_n 0, 1) := by decide +kernel
theorem d_Cl_fewestPayments_83 : decode prog_2_method_7_code 83 = .ok (.getfield 15, 3) := by decide +kernel
theorem d_Cl_fewestPayments_86 : decode prog_2_method_7_code 86 = .ok (.iload 6, 2) := by decide +kernel
theorem d_Cl_fewestPayments_88 : decode prog_2_method_7_code 88 = .ok (.iaload, 1) := by decide +kernel
theorem d_Cl_fewestPayments_89 : decode prog_2_method_7_code 89 = .ok (.iadd, 1) := by decide +kernel
theorem d_Cl_fewestPayments_90 : decode prog_2_method_7_code 90 = .ok (.istore 4, 2) := by decide +kernel
theorem d_Cl_fewestPayments_92 : decode prog_2_method_7_code 92 = .ok (.iload 5, 2) := by decide +kernel
theorem d_Cl_fewestPayments_94 : decode prog_2_method_7_code 94 = .ok (.aload_n 0, 1) := by decide +kernel
theorem d_Cl_fewestPayments_95 : decode prog_2_method_7_code 95 = .ok (.getfield 18, 3) := by decide +kernel
theorem d_Cl_fewestPayments_98 : decode prog_2_method_7_code 98 = .ok (.iload_n 3, 1) := by decide +kernel
theorem d_Cl_fewestPayments_99 : decode prog_2_method_7_code 99 = .ok (.iconst 1, 1) := by decide +kernel
theorem d_Cl_fewestPayments_100 : decode prog_2_method_7_code 100 = .ok (.iload 6, 2) := by decide +kernel
theorem d_Cl_fewestPayments_102 : decode prog_2_method_7_code 102 = .ok (.ishl, 1) := by decide +kernel
theorem d_Cl_fewestPayments_103 : decode prog_2_method_7_code 103 = .ok (.iconst (-1), 1) := by decide +kernel
theorem d_Cl_fewestPayments_104 : decode prog_2_method_7_code 104 = .ok (.ixor, 1) := by decide +kernel
theorem d_Cl_fewestPayments_105 : decode prog_2_method_7_code 105 = .ok (.iand, 1) := by decide +kernel
theorem d_Cl_fewestPayments_106 : decode prog_2_method_7_code 106 = .ok (.iaload, 1) := by decide +kernel
theorem d_Cl_fewestPayments_107 : decode prog_2_method_7_code 107 = .ok (.invokestatic 82, 3) := by decide +kernel
theorem d_Cl_fewestPayments_110 : decode prog_2_method_7_code 110 = .ok (.istore 5, 2) := by decide +kernel
theorem d_Cl_fewestPayments_112 : decode prog_2_method_7_code 112 = .ok (.iinc 6 1, 3) := by decide +kernel
theorem d_Cl_fewestPayments_115 : decode prog_2_method_7_code 115 = .ok (.goto (-53), 3) := by decide +kernel
theorem d_Cl_fewestPayments_118 : decode prog_2_method_7_code 118 = .ok (.aload_n 0, 1) := by decide +kernel
theorem d_Cl_fewestPayments_119 : decode prog_2_method_7_code 119 = .ok (.getfield 18, 3) := by decide +kernel
theorem d_Cl_fewestPayments_122 : decode prog_2_method_7_code 122 = .ok (.iload_n 3, 1) := by decide +kernel
theorem d_Cl_fewestPayments_123 : decode prog_2_method_7_code 123 = .ok (.iload 4, 2) := by decide +kernel
theorem d_Cl_fewestPayments_125 : decode prog_2_method_7_code 125 = .ok (.ifCond .ne 10, 3) := by decide +kernel
theorem d_Cl_fewestPayments_128 : decode prog_2_method_7_code 128 = .ok (.iload 5, 2) := by decide +kernel
theorem d_Cl_fewestPayments_130 : decode prog_2_method_7_code 130 = .ok (.iconst 1, 1) := by decide +kernel
theorem d_Cl_fewestPayments_131 : decode prog_2_method_7_code 131 = .ok (.iadd, 1) := by decide +kernel
theorem d_Cl_fewestPayments_132 : decode prog_2_method_7_code 132 = .ok (.goto 5, 3) := by decide +kernel
theorem d_Cl_fewestPayments_135 : decode prog_2_method_7_code 135 = .ok (.iload 5, 2) := by decide +kernel
theorem d_Cl_fewestPayments_137 : decode prog_2_method_7_code 137 = .ok (.iastore, 1) := by decide +kernel
theorem d_Cl_fewestPayments_138 : decode prog_2_method_7_code 138 = .ok (.iinc 3 1, 3) := by decide +kernel
theorem d_Cl_fewestPayments_141 : decode prog_2_method_7_code 141 = .ok (.goto (-93), 3) := by decide +kernel
theorem d_Cl_fewestPayments_144 : decode prog_2_method_7_code 144 = .ok (.aload_n 1, 1) := by decide +kernel
theorem d_Cl_fewestPayments_145 : decode prog_2_method_7_code 145 = .ok (.getfield 45, 3) := by decide +kernel
theorem d_Cl_fewestPayments_148 : decode prog_2_method_7_code 148 = .ok (.aload_n 0, 1) := by decide +kernel
theorem d_Cl_fewestPayments_149 : decode prog_2_method_7_code 149 = .ok (.getfield 18, 3) := by decide +kernel
theorem d_Cl_fewestPayments_152 : decode prog_2_method_7_code 152 = .ok (.iload_n 2, 1) := by decide +kernel
theorem d_Cl_fewestPayments_153 : decode prog_2_method_7_code 153 = .ok (.iaload, 1) := by decide +kernel
theorem d_Cl_fewestPayments_154 : decode prog_2_method_7_code 154 = .ok (.isub, 1) := by decide +kernel
theorem d_Cl_fewestPayments_155 : decode prog_2_method_7_code 155 = .ok (.ireturn, 1) := by decide +kernel
def w_Cl_fewestPayments {d : Nat} (hd : 3 ≤ d) := (show SS ("DebtDoors$Clearing", prog_2_method_7_code, 7) (some .int) d 0 0 0 0 _ from (sS (p1 := 30) (sS (p1 := 2) (sIn 2 (xE (rI d_Cl_fewestPayments_0 rfl)) d_Cl_fewestPayments_1 rfl (by decide)) (sLp (ps := 24) (tt := 10) (pn := 30) (p1 := 0) (p2 := 0) (xC (rNot (rJ2 (tgt := 30) j_ge (rIn 2 d_Cl_fewestPayments_2 rfl) (rF 6 fl_Cl_45 nk_9_6 (rAn 1 d_Cl_fewestPayments_3 rfl) d_Cl_fewestPayments_4 rfl) d_Cl_fewestPayments_7 (by decide)))) (sAs (rFr fl_Cl_15 nk_0_1 (rAn 0 d_Cl_fewestPayments_10 rfl) d_Cl_fewestPayments_11) (rIn 2 d_Cl_fewestPayments_14 rfl) (xE (rV p_Le_balanceOf (Nat.le_trans (Nat.le_of_ble_eq_true rfl) hd) lv_Cl_79 (rAi (rAr rA0 (rFr fl_Cl_24 nk_9_0 (rAn 1 d_Cl_fewestPayments_15 rfl) d_Cl_fewestPayments_16)) (rIn 2 d_Cl_fewestPayments_19 rfl)) (by decide) d_Cl_fewestPayments_20)) d_Cl_fewestPayments_23) (sGo (pn := 2) (sInc d_Cl_fewestPayments_24 (by decide)) d_Cl_fewestPayments_27 (by decide)))) (sS (p1 := 37) (sAs (rFr fl_Cl_18 nk_0_2 (rAn 0 d_Cl_fewestPayments_30 rfl) d_Cl_fewestPayments_31) (rI d_Cl_fewestPayments_34 rfl) (xE (rI d_Cl_fewestPayments_35 rfl)) d_Cl_fewestPayments_36) (sS (p1 := 46) (sIn 2 (xE (r2 o_sub (r2 o_shl (rI d_Cl_fewestPayments_37 rfl) (rF 6 fl_Cl_45 nk_9_6 (rAn 1 d_Cl_fewestPayments_38 rfl) d_Cl_fewestPayments_39 rfl) d_Cl_fewestPayments_42) (rI d_Cl_fewestPayments_43 rfl) d_Cl_fewestPayments_44)) d_Cl_fewestPayments_45 rfl (by decide)) (sS (p1 := 144) (sS (p1 := 48) (sIn 3 (xE (rI d_Cl_fewestPayments_46 rfl)) d_Cl_fewestPayments_47 rfl (by decide)) (sLp (ps := 138) (tt := 53) (pn := 144) (p1 := 0) (p2 := 0) (xC (rNot (rJ2 (tgt := 144) j_gt (rIn 3 d_Cl_fewestPayments_48 rfl) (rIn 2 d_Cl_fewestPayments_49 rfl) d_Cl_fewestPayments_50 (by decide)))) (sS (p1 := 56) (sI (xE (rI d_Cl_fewestPayments_53 rfl)) d_Cl_fewestPayments_54 (by decide)) (sS (p1 := 59) (sI (xE (rI d_Cl_fewestPayments_56 rfl)) d_Cl_fewestPayments_57 (by decide)) (sS (p1 := 118) (sS (p1 := 62) (sI (xE (rI d_Cl_fewestPayments_59 rfl)) d_Cl_fewestPayments_60 (by decide)) (sLp (ps := 112) (tt := 71) (pn := 118) (p1 := 0) (p2 := 0) (xC (rNot (rJ2 (tgt := 118) j_ge (rIl d_Cl_fewestPayments_62) (rF 6 fl_Cl_45 nk_9_6 (rAn 1 d_Cl_fewestPayments_64 rfl) d_Cl_fewestPayments_65 rfl) d_Cl_fewestPayments_68 (by decide)))) (sIf (pn := 112) (tt := 80) (xC (rNot (rJ1 (tgt := 112) k_eq (r2 o_and (r2 o_shr (rIn 3 d_Cl_fewestPayments_71 rfl) (rIl d_Cl_fewestPayments_72) d_Cl_fewestPayments_74) (rI d_Cl_fewestPayments_75 rfl) d_Cl_fewestPayments_76) d_Cl_fewestPayments_77 (by decide)))) (sS (p1 := 92) (sI (xE (r2 o_add (rIl d_Cl_fewestPayments_80) (rIa (rFr fl_Cl_15 nk_0_1 (rAn 0 d_Cl_fewestPayments_82 rfl) d_Cl_fewestPayments_83) (rIl d_Cl_fewestPayments_86) d_Cl_fewestPayments_88) d_Cl_fewestPayments_89)) d_Cl_fewestPayments_90 (by decide)) (sI (xE (rMax km_Cl_82 (rIl d_Cl_fewestPayments_92) (rIa (rFr fl_Cl_18 nk_0_2 (rAn 0 d_Cl_fewestPayments_94 rfl) d_Cl_fewestPayments_95) (r2 o_and (rIn 3 d_Cl_fewestPayments_98 rfl) (r2 o_xor (r2 o_shl (rI d_Cl_fewestPayments_99 rfl) (rIl d_Cl_fewestPayments_100) d_Cl_fewestPayments_102) (rI d_Cl_fewestPayments_103 rfl) d_Cl_fewestPayments_104) d_Cl_fewestPayments_105) d_Cl_fewestPayments_106) (by decide) (Nat.le_trans (Nat.le_of_ble_eq_true rfl) hd) d_Cl_fewestPayments_107)) d_Cl_fewestPayments_110 (by decide)))) (sGo (pn := 62) (sInc d_Cl_fewestPayments_112 (by decide)) d_Cl_fewestPayments_115 (by decide)))) (sAs (rFr fl_Cl_18 nk_0_2 (rAn 0 d_Cl_fewestPayments_118 rfl) d_Cl_fewestPayments_119) (rIn 3 d_Cl_fewestPayments_122 rfl) (xE (rT2 (rNot (rJ1 (tgt := 135) k_ne (rIl d_Cl_fewestPayments_123) d_Cl_fewestPayments_125 (by decide))) (rGoE (p2 := 137) (r2 o_add (rIl d_Cl_fewestPayments_128) (rI d_Cl_fewestPayments_130 rfl) d_Cl_fewestPayments_131) d_Cl_fewestPayments_132 (by decide)) (rIl d_Cl_fewestPayments_135))) d_Cl_fewestPayments_137)))) (sGo (pn := 48) (sInc d_Cl_fewestPayments_138 (by decide)) d_Cl_fewestPayments_141 (by decide)))) (sRi (xE (r2 o_sub (rF 6 fl_Cl_45 nk_9_6 (rAn 1 d_Cl_fewestPayments_144 rfl) d_Cl_fewestPayments_145 rfl) (rIa (rFr fl_Cl_18 nk_0_2 (rAn 0 d_Cl_fewestPayments_148 rfl) d_Cl_fewestPayments_149) (rIn 2 d_Cl_fewestPayments_152 rfl) d_Cl_fewestPayments_153) d_Cl_fewestPayments_154)) d_Cl_fewestPayments_155 rfl))))))
theorem q_Cl_fewestPayments {d : Nat} (hd : 3 ≤ d) {μ : zMem} {Z : Zt} {F : Option (List Cls)} {A : Lg} {w : Int → Int} (h : CTx μ Z F A w) : zSp d 0 0 y_Cl_fewestPayments zT0 [vr 346, vr 1] μ zT0 (fun q μ' => q = some (vi (pmA Z A)) ∧ zfc [348, 349] μ μ') := by
  have hn := h.1.1
  refine zSp.ss [vr 346, vr 1, vx 0, vx 0, vx 0, vx 0, vx 0] rfl (w_Cl_fewestPayments (Nat.le_trans (by decide) hd)) rfl rfl ?_
  (try simp only [zit_e, Bool.and_eq_true, Bool.or_eq_true, Bool.not_eq_true', Bool.and_eq_false_iff, Bool.or_eq_false_iff, Bool.not_eq_false', zbe, zdt, zdf, zb2_p, zbp_0, zbp_1, zbp_inj, zbp_01, Bool.true_eq_false, Bool.false_eq_true, true_and, and_true, Decidable.not_not, Classical.not_not, implies_true, List.nil_append, List.cons_append, List.append_assoc, Option.some.injEq, Sum.inl.injEq, zSw_c, zSw_n]); (try simp only [zit_e, Bool.and_eq_true, Bool.or_eq_true, Bool.not_eq_true', Bool.and_eq_false_iff, Bool.or_eq_false_iff, Bool.not_eq_false', zbe, zdt, zdf, zb2_p, zbp_0, zbp_1, zbp_inj, zbp_01, Bool.true_eq_false, Bool.false_eq_true, true_and, and_true, Decidable.not_not, Classical.not_not, implies_true, List.nil_append, List.cons_append, List.append_assoc, Option.some.injEq, Sum.inl.injEq, zSw_c, zSw_n, zc_346, zc_1, zc_2]); (try simp only [zi_cs, zi_c0, zii_cs, zii_c0, zl_cs, zl_c0, zll_cs, zll_c0, zr_cs, zr_c0, zrr_cs, zrr_c0, zxs_cs, zxs_c0, zxx_cs, zxx_c0, zfree_c0, zfree_c1, zfree_cs, zfree_cz, zlong_i, zlong_r, zlong_x, zset_0, zset_s, true_and, and_true, Option.some.injEq, Sum.inl.injEq, Sum.inr.injEq, zb2_p, zbp_0, zbp_1, zbp_inj, zbp_01, Nat.zero_add, Nat.reduceAdd, implies_true, List.nil_append, List.cons_append, List.append_assoc, Int.not_lt, Int.not_le, Decidable.not_not, Int.zero_add, Int.reduceLE, Int.reduceLT, Int.reduceEq, Int.reduceNe, Int.reduceAdd, Int.reduceSub, Int.reduceMul, Int.reduceNeg, Int.reduceToNat, Nat.reduceMul, Nat.reduceLT, Nat.reduceEqDiff, and_self, ite_true, ite_false, zx1, zx2, zRecv, List.length_cons, List.length_nil, ne_eq, not_true_eq_false, not_false_eq_true, true_or, or_true, or_false, false_or, and_false, false_and, zf01, zf10, reduceCtorEq, zSw_c, zSw_n, zm_r, zit_T, zit_F, false_implies, true_implies, zc_346, zc_1, zc_2])
  have hb := blA h.2.1
  unfold pmA
  generalize hbb : (fun p => blL p A.2.1) = b
  have hb1 : ∀ p, b p = blL p A.2.1 := fun p => by rw [← hbb]
  have hb2 : ∀ p, -160000 ≤ b p ∧ b p ≤ 160000 := fun p => by rw [hb1]; exact hb p
  refine zLoop.up Z.1.toNat (fun j ρ μ1 => ∃ x3 x4 x5 x6 : zV, ρ = [vr 346, vr 1, vi j, x3, x4, x5, x6] ∧ (∀ p : Int, 0 ≤ p → p < j → μ1 348 p = b p) ∧ zfc [348, 349] μ μ1) ⟨_, _, _, _, rfl, fun p x y => by omega, zfc.rf⟩ ?_
  rintro j ρ μ1 hj ⟨x3, x4, x5, x6, rfl, hm, hF⟩
  have h1 : CTx μ1 Z F A w := h.k (fun c hc => hF c (by simp only [List.mem_cons, List.not_mem_nil, or_false]; omega)) (by rw [hF 326 (by decide)]; exact h.2.2.2.2.2)
  have hd1 := h1.d
  have e6 := h1.2.2.1.1
  (try simp only [zit_e, Bool.and_eq_true, Bool.or_eq_true, Bool.not_eq_true', Bool.and_eq_false_iff, Bool.or_eq_false_iff, Bool.not_eq_false', zbe, zdt, zdf, zb2_p, zbp_0, zbp_1, zbp_inj, zbp_01, Bool.true_eq_false, Bool.false_eq_true, true_and, and_true, Decidable.not_not, Classical.not_not, implies_true, List.nil_append, List.cons_append, List.append_assoc, Option.some.injEq, Sum.inl.injEq, zSw_c, zSw_n]); (try simp only [zit_e, Bool.and_eq_true, Bool.or_eq_true, Bool.not_eq_true', Bool.and_eq_false_iff, Bool.or_eq_false_iff, Bool.not_eq_false', zbe, zdt, zdf, zb2_p, zbp_0, zbp_1, zbp_inj, zbp_01, Bool.true_eq_false, Bool.false_eq_true, true_and, and_true, Decidable.not_not, Classical.not_not, implies_true, List.nil_append, List.cons_append, List.append_assoc, Option.some.injEq, Sum.inl.injEq, zSw_c, zSw_n, zc_346, zc_1, zc_2, f_Le_balanceOf, g_Le_balanceOf]); (try simp only [zi_cs, zi_c0, zii_cs, zii_c0, zl_cs, zl_c0, zll_cs, zll_c0, zr_cs, zr_c0, zrr_cs, zrr_c0, zxs_cs, zxs_c0, zxx_cs, zxx_c0, zfree_c0, zfree_c1, zfree_cs, zfree_cz, zlong_i, zlong_r, zlong_x, zset_0, zset_s, true_and, and_true, Option.some.injEq, Sum.inl.injEq, Sum.inr.injEq, zb2_p, zbp_0, zbp_1, zbp_inj, zbp_01, Nat.zero_add, Nat.reduceAdd, implies_true, List.nil_append, List.cons_append, List.append_assoc, Int.not_lt, Int.not_le, Decidable.not_not, Int.zero_add, Int.reduceLE, Int.reduceLT, Int.reduceEq, Int.reduceNe, Int.reduceAdd, Int.reduceSub, Int.reduceMul, Int.reduceNeg, Int.reduceToNat, Nat.reduceMul, Nat.reduceLT, Nat.reduceEqDiff, and_self, ite_true, ite_false, zx1, zx2, zRecv, List.length_cons, List.length_nil, ne_eq, not_true_eq_false, not_false_eq_true, true_or, or_true, or_false, false_or, and_false, false_and, zf01, zf10, reduceCtorEq, zSw_c, zSw_n, zm_r, zit_T, zit_F, false_implies, true_implies, zc_346, zc_1, zc_2, f_Le_balanceOf, g_Le_balanceOf])
  rw [e6]
  refine zif (fun c => ?_) (fun c => ?_)
  · rw [hd1.1, ← hb1]
    refine ⟨by omega, by omega, hd1.2.2.2.1, zI_s (by omega) (by omega), Z.1.toNat - (j + 1), by omega, j + 1, rfl, by omega, _, _, _, _, rfl, fun p x y => ?_, hF.zm (by decide)⟩
    by_cases ep : p = j
    · rw [zit_t ep, ep]
    · rw [zit_f ep]
      exact hm p x (by omega)
  · have ej : (j : Int) = Z.1 := by omega
    have hsh : zshl 1 Z.1 = ((2 ^ Z.1.toNat : Nat) : Int) := by
      have := zshl_n (k := Z.1.toNat) (by omega)
      rwa [show ((Z.1.toNat : Nat) : Int) = Z.1 by omega] at this
    have hM := p2_7 (n := Z.1.toNat) (by omega)
    rw [hsh]
    generalize hMM : 2 ^ Z.1.toNat = M at *
    generalize hnn : Z.1.toNat = n at *
    rw [show ((M - 1 : Nat) : Int) = (M : Int) - 1 by omega]
    refine ⟨zI_s (by omega) (by omega), ?_⟩
    refine zLoop.up (M - 1) (fun s ρ μ2 => ∃ x4 x5 x6 : zV, ρ = [vr 346, vr 1, vi ((M : Int) - 1), vi (s + 1), x4, x5, x6] ∧ (∀ p : Int, 0 ≤ p → p < n → μ2 348 p = b p) ∧ (∀ x : Int, 0 ≤ x → x ≤ s → μ2 349 x = gT b n s x) ∧ zfc [348, 349] μ μ2) ⟨_, _, _, rfl, fun p x y => ?_, fun x y z => ?_, hF.zm (by decide)⟩ ?_
    · rw [zm_o (by omega)]
      exact hm p x (by omega)
    · rw [show x = 0 by omega, zm_s]
      rfl
    clear hm hF h1 hd1 e6
    rintro s ρ μ2 hs ⟨x4, x5, x6, rfl, hm, hg, hF⟩
    have h1 : CTx μ2 Z F A w := h.k (fun c hc => hF c (by simp only [List.mem_cons, List.not_mem_nil, or_false]; omega)) (by rw [hF 326 (by decide)]; exact h.2.2.2.2.2)
    have e6 := h1.2.2.1.1
    (try simp only [zit_e, Bool.and_eq_true, Bool.or_eq_true, Bool.not_eq_true', Bool.and_eq_false_iff, Bool.or_eq_false_iff, Bool.not_eq_false', zbe, zdt, zdf, zb2_p, zbp_0, zbp_1, zbp_inj, zbp_01, Bool.true_eq_false, Bool.false_eq_true, true_and, and_true, Decidable.not_not, Classical.not_not, implies_true, List.nil_append, List.cons_append, List.append_assoc, Option.some.injEq, Sum.inl.injEq, zSw_c, zSw_n]); (try simp only [zit_e, Bool.and_eq_true, Bool.or_eq_true, Bool.not_eq_true', Bool.and_eq_false_iff, Bool.or_eq_false_iff, Bool.not_eq_false', zbe, zdt, zdf, zb2_p, zbp_0, zbp_1, zbp_inj, zbp_01, Bool.true_eq_false, Bool.false_eq_true, true_and, and_true, Decidable.not_not, Classical.not_not, implies_true, List.nil_append, List.cons_append, List.append_assoc, Option.some.injEq, Sum.inl.injEq, zSw_c, zSw_n, zc_346, zc_1, zc_2]); (try simp only [zi_cs, zi_c0, zii_cs, zii_c0, zl_cs, zl_c0, zll_cs, zll_c0, zr_cs, zr_c0, zrr_cs, zrr_c0, zxs_cs, zxs_c0, zxx_cs, zxx_c0, zfree_c0, zfree_c1, zfree_cs, zfree_cz, zlong_i, zlong_r, zlong_x, zset_0, zset_s, true_and, and_true, Option.some.injEq, Sum.inl.injEq, Sum.inr.injEq, zb2_p, zbp_0, zbp_1, zbp_inj, zbp_01, Nat.zero_add, Nat.reduceAdd, implies_true, List.nil_append, List.cons_append, List.append_assoc, Int.not_lt, Int.not_le, Decidable.not_not, Int.zero_add, Int.reduceLE, Int.reduceLT, Int.reduceEq, Int.reduceNe, Int.reduceAdd, Int.reduceSub, Int.reduceMul, Int.reduceNeg, Int.reduceToNat, Nat.reduceMul, Nat.reduceLT, Nat.reduceEqDiff, and_self, ite_true, ite_false, zx1, zx2, zRecv, List.length_cons, List.length_nil, ne_eq, not_true_eq_false, not_false_eq_true, true_or, or_true, or_false, false_or, and_false, false_and, zf01, zf10, reduceCtorEq, zSw_c, zSw_n, zm_r, zit_T, zit_F, false_implies, true_implies, zc_346, zc_1, zc_2])
    refine zif (fun c1 => ?_) (fun c1 => ?_)
    · refine zLoop.up n (fun p ρ μ3 => ρ = [vr 346, vr 1, vi ((M : Int) - 1), vi (s + 1), vi (smB b ((s : Int) + 1) p), vi (mxG (gT b n s) ((s : Int) + 1) p), vi p] ∧ μ2 = μ3) ⟨rfl, rfl⟩ ?_
      rintro p ρ μ3 hp ⟨rfl, rfl⟩
      (try simp only [zit_e, Bool.and_eq_true, Bool.or_eq_true, Bool.not_eq_true', Bool.and_eq_false_iff, Bool.or_eq_false_iff, Bool.not_eq_false', zbe, zdt, zdf, zb2_p, zbp_0, zbp_1, zbp_inj, zbp_01, Bool.true_eq_false, Bool.false_eq_true, true_and, and_true, Decidable.not_not, Classical.not_not, implies_true, List.nil_append, List.cons_append, List.append_assoc, Option.some.injEq, Sum.inl.injEq, zSw_c, zSw_n]); (try simp only [zit_e, Bool.and_eq_true, Bool.or_eq_true, Bool.not_eq_true', Bool.and_eq_false_iff, Bool.or_eq_false_iff, Bool.not_eq_false', zbe, zdt, zdf, zb2_p, zbp_0, zbp_1, zbp_inj, zbp_01, Bool.true_eq_false, Bool.false_eq_true, true_and, and_true, Decidable.not_not, Classical.not_not, implies_true, List.nil_append, List.cons_append, List.append_assoc, Option.some.injEq, Sum.inl.injEq, zSw_c, zSw_n, zc_346, zc_1, zc_2]); (try simp only [zi_cs, zi_c0, zii_cs, zii_c0, zl_cs, zl_c0, zll_cs, zll_c0, zr_cs, zr_c0, zrr_cs, zrr_c0, zxs_cs, zxs_c0, zxx_cs, zxx_c0, zfree_c0, zfree_c1, zfree_cs, zfree_cz, zlong_i, zlong_r, zlong_x, zset_0, zset_s, true_and, and_true, Option.some.injEq, Sum.inl.injEq, Sum.inr.injEq, zb2_p, zbp_0, zbp_1, zbp_inj, zbp_01, Nat.zero_add, Nat.reduceAdd, implies_true, List.nil_append, List.cons_append, List.append_assoc, Int.not_lt, Int.not_le, Decidable.not_not, Int.zero_add, Int.reduceLE, Int.reduceLT, Int.reduceEq, Int.reduceNe, Int.reduceAdd, Int.reduceSub, Int.reduceMul, Int.reduceNeg, Int.reduceToNat, Nat.reduceMul, Nat.reduceLT, Nat.reduceEqDiff, and_self, ite_true, ite_false, zx1, zx2, zRecv, List.length_cons, List.length_nil, ne_eq, not_true_eq_false, not_false_eq_true, true_or, or_true, or_false, false_or, and_false, false_and, zf01, zf10, reduceCtorEq, zSw_c, zSw_n, zm_r, zit_T, zit_F, false_implies, true_implies, zc_346, zc_1, zc_2])
      rw [e6]
      have s1 := smB_in (s := ((s : Int) + 1)) hb2 (p + 1)
      have s0 := smB_in (s := ((s : Int) + 1)) hb2 p
      have m1 := mxG_in (G := gT b n s) (s := ((s : Int) + 1)) (m := s) (by omega) (fun x => gT_in s x) (p + 1)
      have m0 := mxG_in (G := gT b n s) (s := ((s : Int) + 1)) (m := s) (by omega) (fun x => gT_in s x) p
      refine zif (fun c2 => ?_) (fun c2 => ?_)
      · have es : smB b ((s : Int) + 1) (p + 1) = smB b ((s : Int) + 1) p + zit (zbit ((s : Int) + 1) p) (b p) 0 := rfl
        have em : mxG (gT b n s) ((s : Int) + 1) (p + 1) = zit (zbit ((s : Int) + 1) p) (max (mxG (gT b n s) ((s : Int) + 1) p) (gT b n s (((s : Int) + 1) - ((2 ^ p : Nat) : Int)))) (mxG (gT b n s) ((s : Int) + 1) p) := rfl
        have hbp := hb2 p
        rw [zbit_e (by omega) (by omega) (by omega) (by omega)]
        refine zif (fun c3 => ?_) (fun c3 => ?_)
        all_goals rw [zbp_0] at c3
        · have c3 := Classical.not_not.mp c3
          have hle := zbit_le (by omega) c3
          rw [zandn (by omega) (by omega) (by omega) (by omega) c3, Int.toNat_natCast]
          rw [Int.toNat_natCast] at hle
          rw [zit_t c3] at es em
          rw [hm p (by omega) (by omega), hg _ (by omega) (by omega)]
          refine ⟨?_, ?_, zI_s (by omega) (by omega), znx (P := fun p' => [vr 346, vr 1, vi ((M : Int) - 1), vi ((s : Int) + 1), vi (smB b ((s : Int) + 1) p + b p), vi (max (mxG (gT b n s) ((s : Int) + 1) p) (gT b n s ((s : Int) + 1 - ((2 ^ p : Nat) : Int)))), vi ((p : Int) + 1)] = [vr 346, vr 1, vi ((M : Int) - 1), vi ((s : Int) + 1), vi (smB b ((s : Int) + 1) p'), vi (mxG (gT b n s) ((s : Int) + 1) p'), vi p']) (by omega) (by rw [es, em]; rfl)⟩
          · ((repeat' apply And.intro) <;> (first | omega | (simp only [zI_e]; omega) | exact True.intro))
          · ((repeat' apply And.intro) <;> (first | omega | (simp only [zI_e]; omega) | exact True.intro))
        · rw [zit_f (fun q => c3 (fun z => z q))] at es em
          exact ⟨zI_s (by omega) (by omega), znx (P := fun p' => [vr 346, vr 1, vi ((M : Int) - 1), vi ((s : Int) + 1), vi (smB b ((s : Int) + 1) p), vi (mxG (gT b n s) ((s : Int) + 1) p), vi ((p : Int) + 1)] = [vr 346, vr 1, vi ((M : Int) - 1), vi ((s : Int) + 1), vi (smB b ((s : Int) + 1) p'), vi (mxG (gT b n s) ((s : Int) + 1) p'), vi p']) (by omega) (by rw [es, em, Int.add_zero]; rfl)⟩
      · have ep : p = n := by omega
        subst ep
        refine ⟨by omega, by omega, fun _ => zI_s (by omega) (by omega), zI_s (by omega) (by omega), M - 1 - (s + 1), by omega, s + 1, rfl, by omega, _, _, _, rfl, hm, fun x y z => ?_, hF.zm (by decide)⟩
        by_cases ex : x = (s : Int) + 1
        · rw [zit_t ex, ex, gT_s]
          unfold zit
          split <;> omega
        · rw [zit_f ex, gT_o ex]
          exact hg x y (by omega)
    · have eS : s = M - 1 := by omega
      subst eS
      have hgl := hg ((M : Int) - 1) (by omega) (by omega)
      have hgi := gT_in (b := b) (n := n) (M - 1) ((M : Int) - 1)
      rw [hgl, e6]
      refine ⟨⟨by omega, zI_s (by omega) (by omega)⟩, rfl, hF⟩

