/-! words of a text, and of the reference's row -/
def kG (bs : List Int) : List Nat → Nat → List Int → Int
  | [], w, cw => if cw = bs then w else -1
  | ch :: r, w, cw => if ch = 32 then (if cw = bs then (w : Int) else kG bs r (w + 1) []) else kG bs r w (cw ++ [(ch : Int)])
def kwT (x : Nat) (bs : List Int) : Int := kG bs (zTxs.getD (x - 2) []) 0 []
/-- which of a text's words a code is -/
def kwF (x : Nat) (c : Int) : Int :=
  if x = 2 then (if 1 ≤ c ∧ c ≤ 4 then c - 1 else -1) else if x = 3 then (if 24 ≤ c ∧ c ≤ 26 then c - 24 else -1)
  else if x = 11 then (if 9 ≤ c ∧ c ≤ 18 then c - 9 else -1) else if x = 12 then (if c = 17 then 0 else if 19 ≤ c ∧ c ≤ 23 then c - 18 else -1)
  else if c = [27, 28, 29, 5, 6, 7, 8].getD (x - 4) 0 then 0 else -1
def kS : List Nat → List Int → List (List Int)
  | [], cw => [cw]
  | ch :: r, cw => if ch = 32 then cw :: kS r [] else kS r (cw ++ [(ch : Int)])
theorem kG_no {bs : List Int} : ∀ (t : List Nat) (n : Nat) (cw : List Int), (∀ w ∈ kS t cw, w ≠ bs) → kG bs t n cw = -1
  | [], n, cw, h => by
    rw [kG, if_neg (h cw (by simp [kS]))]
  | ch :: r, n, cw, h => by
    rw [kG]
    rw [kS] at h
    split
    · next e =>
      rw [if_pos e] at h
      rw [if_neg (h cw List.mem_cons_self)]
      exact kG_no r _ _ (fun w hw => h w (List.mem_cons_of_mem _ hw))
    · next e =>
      rw [if_neg e] at h
      exact kG_no r _ _ h
theorem kS_all : (List.range 11).all (fun i => (kS (zTxs.getD i []) []).all (fun w => decide (w ∈ WL))) = true := by decide +kernel
theorem kw_all : (List.range 11).all (fun i => (List.range 29).all (fun j => kwT (i + 2) (WL.getD j []) == kwF (i + 2) ((j : Int) + 1)) && (kwF (i + 2) 0 == -1)) = true := by decide +kernel
theorem kwT_F {x : Nat} {bs : List Int} (hx : 2 ≤ x ∧ x < 13) : kwT x bs = kwF x (wcode bs) := by
  have h1 := List.all_eq_true.mp kw_all (x - 2) (List.mem_range.mpr (by omega))
  rw [show x - 2 + 2 = x by omega, Bool.and_eq_true, beq_iff_eq] at h1
  by_cases h : wcode bs = 0
  · rw [h, h1.2]
    unfold kwT
    refine kG_no _ _ _ (fun w hw e => ?_)
    have h2 := List.all_eq_true.mp kS_all (x - 2) (List.mem_range.mpr (by omega))
    have h3 := List.all_eq_true.mp h2 w hw
    rw [decide_eq_true_eq] at h3
    unfold wcode at h
    rw [← e, if_pos h3] at h
    omega
  · obtain ⟨j, hj, rfl⟩ := wcode_j h
    have h2 := List.all_eq_true.mp h1.1 j (List.mem_range.mpr hj)
    rw [beq_iff_eq] at h2
    rw [h2, (WL_j hj).1]
theorem bsL_len {B : Int → Int} {k e : Nat} : (bsL B k e).length = e - k := tL_len
theorem bsL_get {B : Int → Int} {k e i : Nat} (h : i < e - k) : (bsL B k e)[i]? = some (B ((k : Int) + i)) := tL_get h
/-- one sign more of a word that agrees so far -/
theorem pfx_s {cw bs : List Int} {c : Int} : cw ++ [c] <+: bs ↔ cw <+: bs ∧ bs[cw.length]? = some c := by
  constructor
  · rintro ⟨t, rfl⟩
    refine ⟨⟨c :: t, by simp⟩, by simp⟩
  · rintro ⟨⟨t, rfl⟩, h⟩
    rw [List.getElem?_append_right (Nat.le_refl _), Nat.sub_self] at h
    cases t with
    | nil => simp at h
    | cons a t =>
      simp only [List.getElem?_cons_zero, Option.some.injEq] at h
      subst h
      exact ⟨t, by simp⟩
theorem pfx_e {cw bs : List Int} : cw = bs ↔ cw <+: bs ∧ cw.length = bs.length := by
  constructor
  · rintro rfl
    exact ⟨List.prefix_refl _, rfl⟩
  · rintro ⟨h, hl⟩
    exact h.eq_of_length hl
theorem fl_Re_35 : zFl "DebtDoors$Reader" 35 6 9 := ⟨_, rfl, by decide, (zTb_in 336 (by decide +kernel) (by decide +kernel)), rfl⟩
theorem nk_6_9 : zNk 6 9 = some 0 := rfl
def y_Re_wordIn : zMt := (⟨"DebtDoors$Reader", "wordIn", "(Ljava/lang/String;)I"⟩, prog_8_method_8_code, 6, some .int)
theorem d_Re_wordIn_0 : decode prog_8_method_8_code 0 = .ok (.aload_n 0, 1) := by decide +kernel
theorem d_Re_wordIn_1 : decode prog_8_method_8_code 1 = .ok (.getfield 51, 3) := by decide +kernel
theorem d_Re_wordIn_4 : decode prog_8_method_8_code 4 = .ok (.iconst 1, 1) := by decide +kernel
theorem d_Re_wordIn_5 : decode prog_8_method_8_code 5 = .ok (.if_icmp .eq 5, 3) := by decide +kernel
theorem d_Re_wordIn_8 : decode prog_8_method_8_code 8 = .ok (.iconst (-1), 1) := by decide +kernel
theorem d_Re_wordIn_9 : decode prog_8_method_8_code 9 = .ok (.ireturn, 1) := by decide +kernel
theorem d_Re_wordIn_10 : decode prog_8_method_8_code 10 = .ok (.iconst 0, 1) := by decide +kernel
theorem d_Re_wordIn_11 : decode prog_8_method_8_code 11 = .ok (.istore_n 2, 1) := by decide +kernel
theorem d_Re_wordIn_12 : decode prog_8_method_8_code 12 = .ok (.aload_n 0, 1) := by decide +kernel
theorem d_Re_wordIn_13 : decode prog_8_method_8_code 13 = .ok (.getfield 58, 3) := by decide +kernel
theorem d_Re_wordIn_16 : decode prog_8_method_8_code 16 = .ok (.istore_n 3, 1) := by decide +kernel
theorem d_Re_wordIn_17 : decode prog_8_method_8_code 17 = .ok (.iconst 1, 1) := by decide +kernel
theorem d_Re_wordIn_18 : decode prog_8_method_8_code 18 = .ok (.istore 4, 2) := by decide +kernel
theorem d_Re_wordIn_20 : decode prog_8_method_8_code 20 = .ok (.iconst 0, 1) := by decide +kernel
theorem d_Re_wordIn_21 : decode prog_8_method_8_code 21 = .ok (.istore 5, 2) := by decide +kernel
theorem d_Re_wordIn_23 : decode prog_8_method_8_code 23 = .ok (.iload 5, 2) := by decide +kernel
theorem d_Re_wordIn_25 : decode prog_8_method_8_code 25 = .ok (.aload_n 1, 1) := by decide +kernel
theorem d_Re_wordIn_26 : decode prog_8_method_8_code 26 = .ok (.invokevirtual 74, 3) := by decide +kernel
theorem d_Re_wordIn_29 : decode prog_8_method_8_code 29 = .ok (.if_icmp .ge 87, 3) := by decide +kernel
theorem d_Re_wordIn_32 : decode prog_8_method_8_code 32 = .ok (.aload_n 1, 1) := by decide +kernel
theorem d_Re_wordIn_33 : decode prog_8_method_8_code 33 = .ok (.iload 5, 2) := by decide +kernel
theorem d_Re_wordIn_35 : decode prog_8_method_8_code 35 = .ok (.invokevirtual 79, 3) := by decide +kernel
theorem d_Re_wordIn_38 : decode prog_8_method_8_code 38 = .ok (.bipush 32, 2) := by decide +kernel
theorem d_Re_wordIn_40 : decode prog_8_method_8_code 40 = .ok (.if_icmp .ne 32, 3) := by decide +kernel
theorem d_Re_wordIn_43 : decode prog_8_method_8_code 43 = .ok (.iload 4, 2) := by decide +kernel
theorem d_Re_wordIn_45 : decode prog_8_method_8_code 45 = .ok (.ifCond .eq 13, 3) := by decide +kernel
theorem d_Re_wordIn_48 : decode prog_8_method_8_code 48 = .ok (.iload_n 3, 1) := by decide +kernel
theorem d_Re_wordIn_49 : decode prog_8_method_8_code 49 = .ok (.aload_n 0, 1) := by decide +kernel
theorem d_Re_wordIn_50 : decode prog_8_method_8_code 50 = .ok (.getfield 35, 3) := by decide +kernel
theorem d_Re_wordIn_53 : decode prog_8_method_8_code 53 = .ok (.if_icmp .ne 5, 3) := by decide +kernel
theorem d_Re_wordIn_56 : decode prog_8_method_8_code 56 = .ok (.iload_n 2, 1) := by decide +kernel
theorem d_Re_wordIn_57 : decode prog_8_method_8_code 57 = .ok (.ireturn, 1) := by decide +kernel
theorem d_Re_wordIn_58 : decode prog_8_method_8_code 58 = .ok (.iinc 2 1, 3) := by decide +kernel
theorem d_Re_wordIn_61 : decode prog_8_method_8_code 61 = .ok (.aload_n 0, 1) := by decide +kernel
theorem d_Re_wordIn_62 : decode prog_8_method_8_code 62 = .ok (.getfield 58, 3) := by decide +kernel
theorem d_Re_wordIn_65 : decode prog_8_method_8_code 65 = .ok (.istore_n 3, 1) := by decide +kernel
theorem d_Re_wordIn_66 : decode prog_8_method_8_code 66 = .ok (.iconst 1, 1) := by decide +kernel
theorem d_Re_wordIn_67 : decode prog_8_method_8_code 67 = .ok (.istore 4, 2) := by decide +kernel
theorem d_Re_wordIn_69 : decode prog_8_method_8_code 69 = .ok (.goto 41, 3) := by decide +kernel
theorem d_Re_wordIn_72 : decode prog_8_method_8_code 72 = .ok (.iload 4, 2) := by decide +kernel
theorem d_Re_wordIn_74 : decode prog_8_method_8_code 74 = .ok (.ifCond .eq 30, 3) := by decide +kernel
theorem d_Re_wordIn_77 : decode prog_8_method_8_code 77 = .ok (.iload_n 3, 1) := by decide +kernel
theorem d_Re_wordIn_78 : decode prog_8_method_8_code 78 = .ok (.aload_n 0, 1) := by decide +kernel
theorem d_Re_wordIn_79 : decode prog_8_method_8_code 79 = .ok (.getfield 35, 3) := by decide +kernel
theorem d_Re_wordIn_82 : decode prog_8_method_8_code 82 = .ok (.if_icmp .ge 22, 3) := by decide +kernel
theorem d_Re_wordIn_85 : decode prog_8_method_8_code 85 = .ok (.aload_n 0, 1) := by decide +kernel
theorem d_Re_wordIn_86 : decode prog_8_method_8_code 86 = .ok (.getfield 9, 3) := by decide +kernel
theorem d_Re_wordIn_89 : decode prog_8_method_8_code 89 = .ok (.iload_n 3, 1) := by decide +kernel
theorem d_Re_wordIn_90 : decode prog_8_method_8_code 90 = .ok (.iaload, 1) := by decide +kernel
theorem d_Re_wordIn_91 : decode prog_8_method_8_code 91 = .ok (.aload_n 1, 1) := by decide +kernel
theorem d_Re_wordIn_92 : decode prog_8_method_8_code 92 = .ok (.iload 5, 2) := by decide +kernel
theorem d_Re_wordIn_94 : decode prog_8_method_8_code 94 = .ok (.invokevirtual 79, 3) := by decide +kernel
theorem d_Re_wordIn_97 : decode prog_8_method_8_code 97 = .ok (.if_icmp .ne 7, 3) := by decide +kernel
theorem d_Re_wordIn_100 : decode prog_8_method_8_code 100 = .ok (.iconst 1, 1) := by decide +kernel
theorem d_Re_wordIn_101 : decode prog_8_method_8_code 101 = .ok (.goto 4, 3) := by decide +kernel
theorem d_Re_wordIn_104 : decode prog_8_method_8_code 104 = .ok (.iconst 0, 1) := by decide +kernel
theorem d_Re_wordIn_105 : decode prog_8_method_8_code 105 = .ok (.istore 4, 2) := by decide +kernel
theorem d_Re_wordIn_107 : decode prog_8_method_8_code 107 = .ok (.iinc 3 1, 3) := by decide +kernel
theorem d_Re_wordIn_110 : decode prog_8_method_8_code 110 = .ok (.iinc 5 1, 3) := by decide +kernel
theorem d_Re_wordIn_113 : decode prog_8_method_8_code 113 = .ok (.goto (-90), 3) := by decide +kernel
theorem d_Re_wordIn_116 : decode prog_8_method_8_code 116 = .ok (.iload 4, 2) := by decide +kernel
theorem d_Re_wordIn_118 : decode prog_8_method_8_code 118 = .ok (.ifCond .eq 15, 3) := by decide +kernel
theorem d_Re_wordIn_121 : decode prog_8_method_8_code 121 = .ok (.iload_n 3, 1) := by decide +kernel
theorem d_Re_wordIn_122 : decode prog_8_method_8_code 122 = .ok (.aload_n 0, 1) := by decide +kernel
theorem d_Re_wordIn_123 : decode prog_8_method_8_code 123 = .ok (.getfield 35, 3) := by decide +kernel
theorem d_Re_wordIn_126 : decode prog_8_method_8_code 126 = .ok (.if_icmp .ne 7, 3) := by decide +kernel
theorem d_Re_wordIn_129 : decode prog_8_method_8_code 129 = .ok (.iload_n 2, 1) := by decide +kernel
theorem d_Re_wordIn_130 : decode prog_8_method_8_code 130 = .ok (.goto 4, 3) := by decide +kernel
theorem d_Re_wordIn_133 : decode prog_8_method_8_code 133 = .ok (.iconst (-1), 1) := by decide +kernel
theorem d_Re_wordIn_134 : decode prog_8_method_8_code 134 = .ok (.ireturn, 1) := by decide +kernel
def w_Re_wordIn {d : Nat} (hd : 8 ≤ d) := (show SS ("DebtDoors$Reader", prog_8_method_8_code, 6) (some .int) d 0 0 0 0 _ from (sS (p1 := 10) (sIf (pn := 10) (tt := 8) (xC (rNot (rJ2 (tgt := 10) j_eq (rF 7 fl_Re_51 nk_6_7 (rAn 0 d_Re_wordIn_0 rfl) d_Re_wordIn_1 rfl) (rI d_Re_wordIn_4 rfl) d_Re_wordIn_5 (by decide)))) (sRi (xE (rI d_Re_wordIn_8 rfl)) d_Re_wordIn_9 rfl)) (sS (p1 := 12) (sIn 2 (xE (rI d_Re_wordIn_10 rfl)) d_Re_wordIn_11 rfl (by decide)) (sS (p1 := 17) (sIn 3 (xE (rF 8 fl_Re_58 nk_6_8 (rAn 0 d_Re_wordIn_12 rfl) d_Re_wordIn_13 rfl)) d_Re_wordIn_16 rfl (by decide)) (sS (p1 := 20) (sI (xE (rI d_Re_wordIn_17 rfl)) d_Re_wordIn_18 (by decide)) (sS (p1 := 116) (sS (p1 := 23) (sI (xE (rI d_Re_wordIn_20 rfl)) d_Re_wordIn_21 (by decide)) (sLp (ps := 110) (tt := 32) (pn := 116) (p1 := 0) (p2 := 0) (xC (rNot (rJ2 (tgt := 116) j_ge (rIl d_Re_wordIn_23) (rTlen (rXn 1 d_Re_wordIn_25 rfl) (by decide) (Nat.le_trans (Nat.le_of_ble_eq_true rfl) hd) rfl d_Re_wordIn_26) d_Re_wordIn_29 (by decide)))) (sIe (pn := 110) (tt := 43) (ff := 72) (xC (rNot (rJ2 (tgt := 72) j_ne (rTchr (rXn 1 d_Re_wordIn_32 rfl) (rIl d_Re_wordIn_33) (by decide) (Nat.le_trans (Nat.le_of_ble_eq_true rfl) hd) rfl d_Re_wordIn_35) (rB d_Re_wordIn_38 rfl) d_Re_wordIn_40 (by decide)))) (sS (p1 := 58) (sIf (pn := 58) (tt := 56) (xC (rAnd (mm := 48) (rNot (rJ1 (tgt := 58) k_eq (rIl d_Re_wordIn_43) d_Re_wordIn_45 (by decide))) (rNot (rJ2 (tgt := 58) j_ne (rIn 3 d_Re_wordIn_48 rfl) (rF 9 fl_Re_35 nk_6_9 (rAn 0 d_Re_wordIn_49 rfl) d_Re_wordIn_50 rfl) d_Re_wordIn_53 (by decide))))) (sRi (xE (rIn 2 d_Re_wordIn_56 rfl)) d_Re_wordIn_57 rfl)) (sS (p1 := 61) (sInc d_Re_wordIn_58 (by decide)) (sS (p1 := 66) (sIn 3 (xE (rF 8 fl_Re_58 nk_6_8 (rAn 0 d_Re_wordIn_61 rfl) d_Re_wordIn_62 rfl)) d_Re_wordIn_65 rfl (by decide)) (sGo (pn := 110) (sI (xE (rI d_Re_wordIn_66 rfl)) d_Re_wordIn_67 (by decide)) d_Re_wordIn_69 (by decide))))) (sS (p1 := 107) (sI (xE (rTb (rAnd (mm := 85) (rAnd (mm := 77) (rNot (rJ1 (tgt := 104) k_eq (rIl d_Re_wordIn_72) d_Re_wordIn_74 (by decide))) (rNot (rJ2 (tgt := 104) j_ge (rIn 3 d_Re_wordIn_77 rfl) (rF 9 fl_Re_35 nk_6_9 (rAn 0 d_Re_wordIn_78 rfl) d_Re_wordIn_79 rfl) d_Re_wordIn_82 (by decide)))) (rNot (rJ2 (tgt := 104) j_ne (rIa (rFr fl_Re_9 nk_6_0 (rAn 0 d_Re_wordIn_85 rfl) d_Re_wordIn_86) (rIn 3 d_Re_wordIn_89 rfl) d_Re_wordIn_90) (rTchr (rXn 1 d_Re_wordIn_91 rfl) (rIl d_Re_wordIn_92) (by decide) (Nat.le_trans (Nat.le_of_ble_eq_true rfl) hd) rfl d_Re_wordIn_94) d_Re_wordIn_97 (by decide)))) (rGoE (p2 := 105) (rI d_Re_wordIn_100 rfl) d_Re_wordIn_101 (by decide)) (rI d_Re_wordIn_104 rfl))) d_Re_wordIn_105 (by decide)) (sInc d_Re_wordIn_107 (by decide)))) (sGo (pn := 23) (sInc d_Re_wordIn_110 (by decide)) d_Re_wordIn_113 (by decide)))) (sRi (xE (rT2 (rAnd (mm := 121) (rNot (rJ1 (tgt := 133) k_eq (rIl d_Re_wordIn_116) d_Re_wordIn_118 (by decide))) (rNot (rJ2 (tgt := 133) j_ne (rIn 3 d_Re_wordIn_121 rfl) (rF 9 fl_Re_35 nk_6_9 (rAn 0 d_Re_wordIn_122 rfl) d_Re_wordIn_123 rfl) d_Re_wordIn_126 (by decide)))) (rGoE (p2 := 134) (rIn 2 d_Re_wordIn_129 rfl) d_Re_wordIn_130 (by decide)) (rI d_Re_wordIn_133 rfl))) d_Re_wordIn_134 rfl)))))))
noncomputable def f_Re_wordIn : List zV → zMem → Int
  | [.inr (.inr (.inl q0)), .inr (.inr (.inr X0))], μ => if μ 321 7 = 1 then kwT X0 (bsL (μ 322) (μ 321 8).toNat (μ 321 9).toNat) else -1
  | _, _ => 0
def g_Re_wordIn : List zV → zMem → Prop
  | [.inr (.inr (.inl q0)), .inr (.inr (.inr X0))], μ => q0 = 321 ∧ ((2 ≤ X0 ∧ X0 < 13) ∧ (μ 321 7 = 1 → 0 ≤ μ 321 8 ∧ μ 321 8 ≤ μ 321 9 ∧ μ 321 9 ≤ 400))
  | _, _ => False
theorem p_Re_wordIn : zPu y_Re_wordIn 8 f_Re_wordIn g_Re_wordIn := by
  intro as μ h
  unfold g_Re_wordIn at h
  split at h
  · next q0 X0 =>
    obtain ⟨rfl, h⟩ := h
    refine zSp.ss [vr 321, vx X0, vx 0, vx 0, vx 0, vx 0] rfl (w_Re_wordIn (Nat.le_refl _)) rfl rfl ?_
    obtain ⟨x, rfl⟩ : ∃ x, X0 = x + 1 := ⟨X0 - 1, by omega⟩
    (try simp only [zit_e, Bool.and_eq_true, Bool.or_eq_true, Bool.not_eq_true', Bool.and_eq_false_iff, Bool.or_eq_false_iff, Bool.not_eq_false', zbe, zdt, zdf, zb2_p, zbp_0, zbp_1, zbp_inj, zbp_01, Bool.true_eq_false, Bool.false_eq_true, true_and, and_true, Decidable.not_not, Classical.not_not, implies_true, List.nil_append, List.cons_append, List.append_assoc, Option.some.injEq, Sum.inl.injEq, zSw_c, zSw_n]); (try simp only [zit_e, Bool.and_eq_true, Bool.or_eq_true, Bool.not_eq_true', Bool.and_eq_false_iff, Bool.or_eq_false_iff, Bool.not_eq_false', zbe, zdt, zdf, zb2_p, zbp_0, zbp_1, zbp_inj, zbp_01, Bool.true_eq_false, Bool.false_eq_true, true_and, and_true, Decidable.not_not, Classical.not_not, implies_true, List.nil_append, List.cons_append, List.append_assoc, Option.some.injEq, Sum.inl.injEq, zSw_c, zSw_n, f_Re_wordIn, zc_321]); (try simp only [zi_cs, zi_c0, zii_cs, zii_c0, zl_cs, zl_c0, zll_cs, zll_c0, zr_cs, zr_c0, zrr_cs, zrr_c0, zxs_cs, zxs_c0, zxx_cs, zxx_c0, zfree_c0, zfree_c1, zfree_cs, zfree_cz, zlong_i, zlong_r, zlong_x, zset_0, zset_s, true_and, and_true, Option.some.injEq, Sum.inl.injEq, Sum.inr.injEq, zb2_p, zbp_0, zbp_1, zbp_inj, zbp_01, Nat.zero_add, Nat.reduceAdd, implies_true, List.nil_append, List.cons_append, List.append_assoc, Int.not_lt, Int.not_le, Decidable.not_not, Int.zero_add, Int.reduceLE, Int.reduceLT, Int.reduceEq, Int.reduceNe, Int.reduceAdd, Int.reduceSub, Int.reduceMul, Int.reduceNeg, Int.reduceToNat, Nat.reduceMul, Nat.reduceLT, Nat.reduceEqDiff, and_self, ite_true, ite_false, zx1, zx2, zRecv, List.length_cons, List.length_nil, ne_eq, not_true_eq_false, not_false_eq_true, true_or, or_true, or_false, false_or, and_false, false_and, zf01, zf10, reduceCtorEq, zSw_c, zSw_n, zm_r, zit_T, zit_F, false_implies, true_implies, f_Re_wordIn, zc_321])
    refine zif (fun c => by rw [zit_f c]) (fun c => ?_)
    have c : μ 321 7 = 1 := Classical.not_not.mp c
    obtain ⟨hx, hb⟩ := h
    have hb := hb c
    rw [zit_t c]
    have hbl : (bsL (μ 322) (μ 321 8).toNat (μ 321 9).toNat).length = (μ 321 9).toNat - (μ 321 8).toNat := bsL_len
    have hbg : ∀ i : Nat, i < (μ 321 9).toNat - (μ 321 8).toNat → (bsL (μ 322) (μ 321 8).toNat (μ 321 9).toNat)[i]? = some (μ 322 (μ 321 8 + i)) := fun i hi => by
      rw [bsL_get hi, show (((μ 321 8).toNat : Nat) : Int) = μ 321 8 by omega]
    generalize bsL (μ 322) (μ 321 8).toNat (μ 321 9).toNat = bs at *
    unfold kwT
    have hin := zTl_in (x + 1)
    have hch : ∀ j : Nat, (j : Int) < zTl (x + 1) → ∃ (ch : Nat) (r : List Nat), (zTxs.getD (x + 1 - 2) []).drop j = ch :: r ∧ r = (zTxs.getD (x + 1 - 2) []).drop (j + 1) ∧ zTc (x + 1) j = (ch : Int) := fun j hj => by
      unfold zTl at hj
      have hj' : j < (zTxs.getD (x + 1 - 2) []).length := by omega
      refine ⟨_, _, List.drop_eq_getElem_cons hj', rfl, ?_⟩
      unfold zTc
      rw [Int.toNat_natCast, List.getD_eq_getElem?_getD, List.getElem?_eq_getElem hj']
      rfl
    have hend : (zTxs.getD (x + 1 - 2) []).drop (zTl (x + 1)).toNat = [] := by
      unfold zTl
      rw [Int.toNat_natCast, List.drop_length]
    generalize zTxs.getD (x + 1 - 2) [] = txt at *
    refine zLoop.up (zTl (x + 1)).toNat (fun j ρ μ1 => ∃ (w : Nat) (cw : List Int) (al : Int), ρ = [vr 321, vx (x + 1), vi w, vi (μ 321 8 + cw.length), vi al, vi j] ∧ μ = μ1 ∧ (al = 0 ∨ al = 1) ∧ (¬ al = 0 ↔ cw <+: bs) ∧ w ≤ j ∧ cw.length ≤ j ∧ kG bs txt 0 [] = kG bs (txt.drop j) w cw) ⟨0, [], 1, by simp, rfl, Or.inr rfl, by simp, Nat.le_refl _, Nat.le_refl _, rfl⟩ ?_
    rintro j ρ μ1 hj ⟨w, cw, al, rfl, rfl, ha, hal, hw, hcl, hk⟩
    (try simp only [zit_e, Bool.and_eq_true, Bool.or_eq_true, Bool.not_eq_true', Bool.and_eq_false_iff, Bool.or_eq_false_iff, Bool.not_eq_false', zbe, zdt, zdf, zb2_p, zbp_0, zbp_1, zbp_inj, zbp_01, Bool.true_eq_false, Bool.false_eq_true, true_and, and_true, Decidable.not_not, Classical.not_not, implies_true, List.nil_append, List.cons_append, List.append_assoc, Option.some.injEq, Sum.inl.injEq, zSw_c, zSw_n]); (try simp only [zit_e, Bool.and_eq_true, Bool.or_eq_true, Bool.not_eq_true', Bool.and_eq_false_iff, Bool.or_eq_false_iff, Bool.not_eq_false', zbe, zdt, zdf, zb2_p, zbp_0, zbp_1, zbp_inj, zbp_01, Bool.true_eq_false, Bool.false_eq_true, true_and, and_true, Decidable.not_not, Classical.not_not, implies_true, List.nil_append, List.cons_append, List.append_assoc, Option.some.injEq, Sum.inl.injEq, zSw_c, zSw_n, zc_321]); (try simp only [zi_cs, zi_c0, zii_cs, zii_c0, zl_cs, zl_c0, zll_cs, zll_c0, zr_cs, zr_c0, zrr_cs, zrr_c0, zxs_cs, zxs_c0, zxx_cs, zxx_c0, zfree_c0, zfree_c1, zfree_cs, zfree_cz, zlong_i, zlong_r, zlong_x, zset_0, zset_s, true_and, and_true, Option.some.injEq, Sum.inl.injEq, Sum.inr.injEq, zb2_p, zbp_0, zbp_1, zbp_inj, zbp_01, Nat.zero_add, Nat.reduceAdd, implies_true, List.nil_append, List.cons_append, List.append_assoc, Int.not_lt, Int.not_le, Decidable.not_not, Int.zero_add, Int.reduceLE, Int.reduceLT, Int.reduceEq, Int.reduceNe, Int.reduceAdd, Int.reduceSub, Int.reduceMul, Int.reduceNeg, Int.reduceToNat, Nat.reduceMul, Nat.reduceLT, Nat.reduceEqDiff, and_self, ite_true, ite_false, zx1, zx2, zRecv, List.length_cons, List.length_nil, ne_eq, not_true_eq_false, not_false_eq_true, true_or, or_true, or_false, false_or, and_false, false_and, zf01, zf10, reduceCtorEq, zSw_c, zSw_n, zm_r, zit_T, zit_F, false_implies, true_implies, zc_321])
    have hq : (¬ al = 0 ∧ μ 321 8 + (cw.length : Int) = μ 321 9) ↔ cw = bs := by
      rw [pfx_e, hal, hbl]
      constructor <;> rintro ⟨a, b⟩ <;> exact ⟨a, by omega⟩
    refine ⟨hx, ?_⟩
    refine zif (fun c2 => ?_) (fun c2 => ?_)
    · obtain ⟨ch, r, hd, hr, he⟩ := hch j (by omega)
      rw [hd, kG] at hk
      rw [he]
      refine ⟨⟨hx, by omega, by omega⟩, ?_⟩
      refine zif (fun e => ?_) (fun e => ?_)
      · have e' : ch = 32 := by omega
        rw [if_pos e'] at hk
        refine zif (fun q => by rw [hk, if_pos (hq.mp q)]) (fun q => ?_)
        rw [if_neg (fun z => q (hq.mpr z))] at hk
        exact ⟨zI_s (by omega) (by omega), zI_s (by omega) (by omega), znx (by omega) ⟨w + 1, [], 1, by simp, Or.inr rfl, by simp, by omega, by simp, by rw [hk, hr]⟩⟩
      · have e' : ¬ ch = 32 := by omega
        rw [if_neg e'] at hk
        have hp : cw ++ [(ch : Int)] <+: bs ↔ (¬ al = 0 ∧ μ 321 8 + (cw.length : Int) < μ 321 9) ∧ μ 322 (μ 321 8 + (cw.length : Int)) = (ch : Int) := by
          rw [pfx_s, hal]
          constructor
          · rintro ⟨a, b⟩
            have hl := (List.getElem?_eq_some_iff.mp b).1
            rw [hbl] at hl
            rw [hbg _ hl] at b
            exact ⟨⟨a, by omega⟩, Option.some.inj b⟩
          · rintro ⟨⟨a, b⟩, d⟩
            exact ⟨a, by rw [hbg _ (by omega), d]⟩
        refine ⟨fun q => ⟨⟨by omega, by omega⟩, hx, by omega, by omega⟩, zI_s (by omega) (by omega), zI_s (by omega) (by omega), znx (by omega) ⟨w, cw ++ [(ch : Int)], zbp ((¬ al = 0 ∧ μ 321 8 + (cw.length : Int) < μ 321 9) ∧ μ 322 (μ 321 8 + (cw.length : Int)) = (ch : Int)), ?_, ?_, ?_, by omega, by simp; omega, by rw [hk, hr]⟩⟩
        · rw [List.length_append, List.length_singleton, Int.natCast_add, ← Int.add_assoc]
          rfl
        · rw [zbp_01]
          trivial
        · rw [zbp_0, hp]
          exact Classical.not_not
    · have ej : j = (zTl (x + 1)).toNat := by omega
      rw [ej, hend, kG] at hk
      by_cases q : cw = bs
      · rw [zit_t (hq.mpr q), hk, if_pos q]
      · rw [zit_f (fun z => q (hq.mp z)), hk, if_neg q]
  · exact h.elim
theorem nk_12_7 : zNk 12 7 = none := rfl
theorem nk_12_9 : zNk 12 9 = none := rfl
def y_M_wordOf : zMt := (⟨"DebtDoorsModel", "wordOf", "(II)I"⟩, prog_14_method_39_code, 8, some .int)
theorem d_M_wordOf_0 : decode prog_14_method_39_code 0 = .ok (.iconst 1, 1) := by decide +kernel
theorem d_M_wordOf_1 : decode prog_14_method_39_code 1 = .ok (.istore_n 3, 1) := by decide +kernel
theorem d_M_wordOf_2 : decode prog_14_method_39_code 2 = .ok (.iconst 0, 1) := by decide +kernel
theorem d_M_wordOf_3 : decode prog_14_method_39_code 3 = .ok (.istore 4, 2) := by decide +kernel
theorem d_M_wordOf_5 : decode prog_14_method_39_code 5 = .ok (.iload 4, 2) := by decide +kernel
theorem d_M_wordOf_7 : decode prog_14_method_39_code 7 = .ok (.aload_n 0, 1) := by decide +kernel
theorem d_M_wordOf_8 : decode prog_14_method_39_code 8 = .ok (.getfield 37, 3) := by decide +kernel
theorem d_M_wordOf_11 : decode prog_14_method_39_code 11 = .ok (.arraylength, 1) := by decide +kernel
theorem d_M_wordOf_12 : decode prog_14_method_39_code 12 = .ok (.if_icmp .ge 114, 3) := by decide +kernel
theorem d_M_wordOf_15 : decode prog_14_method_39_code 15 = .ok (.iconst 0, 1) := by decide +kernel
theorem d_M_wordOf_16 : decode prog_14_method_39_code 16 = .ok (.istore 5, 2) := by decide +kernel
theorem d_M_wordOf_18 : decode prog_14_method_39_code 18 = .ok (.aload_n 0, 1) := by decide +kernel
theorem d_M_wordOf_19 : decode prog_14_method_39_code 19 = .ok (.getfield 37, 3) := by decide +kernel
theorem d_M_wordOf_22 : decode prog_14_method_39_code 22 = .ok (.iload 4, 2) := by decide +kernel
theorem d_M_wordOf_24 : decode prog_14_method_39_code 24 = .ok (.iload 5, 2) := by decide +kernel
theorem d_M_wordOf_26 : decode prog_14_method_39_code 26 = .ok (.iadd, 1) := by decide +kernel
theorem d_M_wordOf_27 : decode prog_14_method_39_code 27 = .ok (.baload, 1) := by decide +kernel
theorem d_M_wordOf_28 : decode prog_14_method_39_code 28 = .ok (.bipush 32, 2) := by decide +kernel
theorem d_M_wordOf_30 : decode prog_14_method_39_code 30 = .ok (.if_icmp .eq 9, 3) := by decide +kernel
theorem d_M_wordOf_33 : decode prog_14_method_39_code 33 = .ok (.iinc 5 1, 3) := by decide +kernel
theorem d_M_wordOf_36 : decode prog_14_method_39_code 36 = .ok (.goto (-18), 3) := by decide +kernel
theorem d_M_wordOf_39 : decode prog_14_method_39_code 39 = .ok (.iload 5, 2) := by decide +kernel
theorem d_M_wordOf_41 : decode prog_14_method_39_code 41 = .ok (.iload_n 2, 1) := by decide +kernel
theorem d_M_wordOf_42 : decode prog_14_method_39_code 42 = .ok (.iload_n 1, 1) := by decide +kernel
theorem d_M_wordOf_43 : decode prog_14_method_39_code 43 = .ok (.isub, 1) := by decide +kernel
theorem d_M_wordOf_44 : decode prog_14_method_39_code 44 = .ok (.if_icmp .ne 7, 3) := by decide +kernel
theorem d_M_wordOf_47 : decode prog_14_method_39_code 47 = .ok (.iconst 1, 1) := by decide +kernel
theorem d_M_wordOf_48 : decode prog_14_method_39_code 48 = .ok (.goto 4, 3) := by decide +kernel
theorem d_M_wordOf_51 : decode prog_14_method_39_code 51 = .ok (.iconst 0, 1) := by decide +kernel
theorem d_M_wordOf_52 : decode prog_14_method_39_code 52 = .ok (.istore 6, 2) := by decide +kernel
theorem d_M_wordOf_54 : decode prog_14_method_39_code 54 = .ok (.iconst 0, 1) := by decide +kernel
theorem d_M_wordOf_55 : decode prog_14_method_39_code 55 = .ok (.istore 7, 2) := by decide +kernel
theorem d_M_wordOf_57 : decode prog_14_method_39_code 57 = .ok (.iload 7, 2) := by decide +kernel
theorem d_M_wordOf_59 : decode prog_14_method_39_code 59 = .ok (.iload 5, 2) := by decide +kernel
theorem d_M_wordOf_61 : decode prog_14_method_39_code 61 = .ok (.if_icmp .ge 43, 3) := by decide +kernel
theorem d_M_wordOf_64 : decode prog_14_method_39_code 64 = .ok (.iload 6, 2) := by decide +kernel
theorem d_M_wordOf_66 : decode prog_14_method_39_code 66 = .ok (.ifCond .eq 38, 3) := by decide +kernel
theorem d_M_wordOf_69 : decode prog_14_method_39_code 69 = .ok (.aload_n 0, 1) := by decide +kernel
theorem d_M_wordOf_70 : decode prog_14_method_39_code 70 = .ok (.getfield 37, 3) := by decide +kernel
theorem d_M_wordOf_73 : decode prog_14_method_39_code 73 = .ok (.iload 4, 2) := by decide +kernel
theorem d_M_wordOf_75 : decode prog_14_method_39_code 75 = .ok (.iload 7, 2) := by decide +kernel
theorem d_M_wordOf_77 : decode prog_14_method_39_code 77 = .ok (.iadd, 1) := by decide +kernel
theorem d_M_wordOf_78 : decode prog_14_method_39_code 78 = .ok (.baload, 1) := by decide +kernel
theorem d_M_wordOf_79 : decode prog_14_method_39_code 79 = .ok (.aload_n 0, 1) := by decide +kernel
theorem d_M_wordOf_80 : decode prog_14_method_39_code 80 = .ok (.getfield 41, 3) := by decide +kernel
theorem d_M_wordOf_83 : decode prog_14_method_39_code 83 = .ok (.iload_n 1, 1) := by decide +kernel
theorem d_M_wordOf_84 : decode prog_14_method_39_code 84 = .ok (.iload 7, 2) := by decide +kernel
theorem d_M_wordOf_86 : decode prog_14_method_39_code 86 = .ok (.iadd, 1) := by decide +kernel
theorem d_M_wordOf_87 : decode prog_14_method_39_code 87 = .ok (.baload, 1) := by decide +kernel
theorem d_M_wordOf_88 : decode prog_14_method_39_code 88 = .ok (.if_icmp .ne 7, 3) := by decide +kernel
theorem d_M_wordOf_91 : decode prog_14_method_39_code 91 = .ok (.iconst 1, 1) := by decide +kernel
theorem d_M_wordOf_92 : decode prog_14_method_39_code 92 = .ok (.goto 4, 3) := by decide +kernel
theorem d_M_wordOf_95 : decode prog_14_method_39_code 95 = .ok (.iconst 0, 1) := by decide +kernel
theorem d_M_wordOf_96 : decode prog_14_method_39_code 96 = .ok (.istore 6, 2) := by decide +kernel
theorem d_M_wordOf_98 : decode prog_14_method_39_code 98 = .ok (.iinc 7 1, 3) := by decide +kernel
theorem d_M_wordOf_101 : decode prog_14_method_39_code 101 = .ok (.goto (-44), 3) := by decide +kernel
theorem d_M_wordOf_104 : decode prog_14_method_39_code 104 = .ok (.iload 6, 2) := by decide +kernel
theorem d_M_wordOf_106 : decode prog_14_method_39_code 106 = .ok (.ifCond .eq 5, 3) := by decide +kernel
theorem d_M_wordOf_109 : decode prog_14_method_39_code 109 = .ok (.iload_n 3, 1) := by decide +kernel
theorem d_M_wordOf_110 : decode prog_14_method_39_code 110 = .ok (.ireturn, 1) := by decide +kernel
theorem d_M_wordOf_111 : decode prog_14_method_39_code 111 = .ok (.iload 4, 2) := by decide +kernel
theorem d_M_wordOf_113 : decode prog_14_method_39_code 113 = .ok (.iload 5, 2) := by decide +kernel
theorem d_M_wordOf_115 : decode prog_14_method_39_code 115 = .ok (.iconst 1, 1) := by decide +kernel
theorem d_M_wordOf_116 : decode prog_14_method_39_code 116 = .ok (.iadd, 1) := by decide +kernel
theorem d_M_wordOf_117 : decode prog_14_method_39_code 117 = .ok (.iadd, 1) := by decide +kernel
theorem d_M_wordOf_118 : decode prog_14_method_39_code 118 = .ok (.istore 4, 2) := by decide +kernel
theorem d_M_wordOf_120 : decode prog_14_method_39_code 120 = .ok (.iinc 3 1, 3) := by decide +kernel
theorem d_M_wordOf_123 : decode prog_14_method_39_code 123 = .ok (.goto (-118), 3) := by decide +kernel
theorem d_M_wordOf_126 : decode prog_14_method_39_code 126 = .ok (.iconst 0, 1) := by decide +kernel
theorem d_M_wordOf_127 : decode prog_14_method_39_code 127 = .ok (.ireturn, 1) := by decide +kernel
def w_M_wordOf {d : Nat} (hd : 1 ≤ d) := (show SS ("DebtDoorsModel", prog_14_method_39_code, 8) (some .int) d 0 0 0 0 _ from (sS (p1 := 2) (sIn 3 (xE (rI d_M_wordOf_0 rfl)) d_M_wordOf_1 rfl (by decide)) (sS (p1 := 5) (sI (xE (rI d_M_wordOf_2 rfl)) d_M_wordOf_3 (by decide)) (sS (p1 := 126) (sLp (ps := 5) (tt := 15) (pn := 126) (p1 := 0) (p2 := 0) (xC (rNot (rJ2 (tgt := 126) j_ge (rIl d_M_wordOf_5) (rLen (rFr fl_M_37 nk_12_7 (rAn 0 d_M_wordOf_7 rfl) d_M_wordOf_8) d_M_wordOf_11) d_M_wordOf_12 (by decide)))) (sS (p1 := 18) (sI (xE (rI d_M_wordOf_15 rfl)) d_M_wordOf_16 (by decide)) (sS (p1 := 39) (sLp (ps := 18) (tt := 33) (pn := 39) (p1 := 0) (p2 := 0) (xC (rNot (rJ2 (tgt := 39) j_eq (rBa (rFr fl_M_37 nk_12_7 (rAn 0 d_M_wordOf_18 rfl) d_M_wordOf_19) (r2 o_add (rIl d_M_wordOf_22) (rIl d_M_wordOf_24) d_M_wordOf_26) d_M_wordOf_27) (rB d_M_wordOf_28 rfl) d_M_wordOf_30 (by decide)))) (sGo (pn := 18) (sInc d_M_wordOf_33 (by decide)) d_M_wordOf_36 (by decide)) s0) (sS (p1 := 54) (sI (xE (rTb (rNot (rJ2 (tgt := 51) j_ne (rIl d_M_wordOf_39) (r2 o_sub (rIn 2 d_M_wordOf_41 rfl) (rIn 1 d_M_wordOf_42 rfl) d_M_wordOf_43) d_M_wordOf_44 (by decide))) (rGoE (p2 := 52) (rI d_M_wordOf_47 rfl) d_M_wordOf_48 (by decide)) (rI d_M_wordOf_51 rfl))) d_M_wordOf_52 (by decide)) (sS (p1 := 104) (sS (p1 := 57) (sI (xE (rI d_M_wordOf_54 rfl)) d_M_wordOf_55 (by decide)) (sLp (ps := 98) (tt := 69) (pn := 104) (p1 := 0) (p2 := 0) (xC (rAnd (mm := 64) (rNot (rJ2 (tgt := 104) j_ge (rIl d_M_wordOf_57) (rIl d_M_wordOf_59) d_M_wordOf_61 (by decide))) (rNot (rJ1 (tgt := 104) k_eq (rIl d_M_wordOf_64) d_M_wordOf_66 (by decide))))) (sI (xE (rTb (rNot (rJ2 (tgt := 95) j_ne (rBa (rFr fl_M_37 nk_12_7 (rAn 0 d_M_wordOf_69 rfl) d_M_wordOf_70) (r2 o_add (rIl d_M_wordOf_73) (rIl d_M_wordOf_75) d_M_wordOf_77) d_M_wordOf_78) (rBa (rFr fl_M_41 nk_12_9 (rAn 0 d_M_wordOf_79 rfl) d_M_wordOf_80) (r2 o_add (rIn 1 d_M_wordOf_83 rfl) (rIl d_M_wordOf_84) d_M_wordOf_86) d_M_wordOf_87) d_M_wordOf_88 (by decide))) (rGoE (p2 := 96) (rI d_M_wordOf_91 rfl) d_M_wordOf_92 (by decide)) (rI d_M_wordOf_95 rfl))) d_M_wordOf_96 (by decide)) (sGo (pn := 57) (sInc d_M_wordOf_98 (by decide)) d_M_wordOf_101 (by decide)))) (sS (p1 := 111) (sIf (pn := 111) (tt := 109) (xC (rNot (rJ1 (tgt := 111) k_eq (rIl d_M_wordOf_104) d_M_wordOf_106 (by decide)))) (sRi (xE (rIn 3 d_M_wordOf_109 rfl)) d_M_wordOf_110 rfl)) (sS (p1 := 120) (sI (xE (r2 o_add (rIl d_M_wordOf_111) (r2 o_add (rIl d_M_wordOf_113) (rI d_M_wordOf_115 rfl) d_M_wordOf_116) d_M_wordOf_117)) d_M_wordOf_118 (by decide)) (sGo (pn := 5) (sInc d_M_wordOf_120 (by decide)) d_M_wordOf_123 (by decide)))))))) s0) (sRi (xE (rI d_M_wordOf_126 rfl)) d_M_wordOf_127 rfl)))))
noncomputable def f_M_wordOf : List zV → zMem → Int
  | [.inr (.inr (.inl q0)), .inl a, .inl b], μ => wcode (bsL (μ 362) a.toNat b.toNat)
  | _, _ => 0
def g_M_wordOf : List zV → zMem → Prop
  | [.inr (.inr (.inl q0)), .inl a, .inl b], μ => q0 = 355 ∧ ((0 ≤ a ∧ a < b ∧ b ≤ 400) ∧ ∀ i : Int, 0 ≤ i → i < 147 → μ 361 i = wTab i)
  | _, _ => False
set_option maxRecDepth 20000 in
theorem p_M_wordOf : zPu y_M_wordOf 1 f_M_wordOf g_M_wordOf := by
  intro as μ h
  unfold g_M_wordOf at h
  split at h
  · next q0 a b =>
    obtain ⟨rfl, h⟩ := h
    refine zSp.ss [vr 355, vi a, vi b, vx 0, vx 0, vx 0, vx 0, vx 0] rfl (w_M_wordOf (Nat.le_refl _)) rfl rfl ?_
    (try simp only [zit_e, Bool.and_eq_true, Bool.or_eq_true, Bool.not_eq_true', Bool.and_eq_false_iff, Bool.or_eq_false_iff, Bool.not_eq_false', zbe, zdt, zdf, zb2_p, zbp_0, zbp_1, zbp_inj, zbp_01, Bool.true_eq_false, Bool.false_eq_true, true_and, and_true, Decidable.not_not, Classical.not_not, implies_true, List.nil_append, List.cons_append, List.append_assoc, Option.some.injEq, Sum.inl.injEq, zSw_c, zSw_n]); (try simp only [zit_e, Bool.and_eq_true, Bool.or_eq_true, Bool.not_eq_true', Bool.and_eq_false_iff, Bool.or_eq_false_iff, Bool.not_eq_false', zbe, zdt, zdf, zb2_p, zbp_0, zbp_1, zbp_inj, zbp_01, Bool.true_eq_false, Bool.false_eq_true, true_and, and_true, Decidable.not_not, Classical.not_not, implies_true, List.nil_append, List.cons_append, List.append_assoc, Option.some.injEq, Sum.inl.injEq, zSw_c, zSw_n, f_M_wordOf, zc_355]); (try simp only [zi_cs, zi_c0, zii_cs, zii_c0, zl_cs, zl_c0, zll_cs, zll_c0, zr_cs, zr_c0, zrr_cs, zrr_c0, zxs_cs, zxs_c0, zxx_cs, zxx_c0, zfree_c0, zfree_c1, zfree_cs, zfree_cz, zlong_i, zlong_r, zlong_x, zset_0, zset_s, true_and, and_true, Option.some.injEq, Sum.inl.injEq, Sum.inr.injEq, zb2_p, zbp_0, zbp_1, zbp_inj, zbp_01, Nat.zero_add, Nat.reduceAdd, implies_true, List.nil_append, List.cons_append, List.append_assoc, Int.not_lt, Int.not_le, Decidable.not_not, Int.zero_add, Int.reduceLE, Int.reduceLT, Int.reduceEq, Int.reduceNe, Int.reduceAdd, Int.reduceSub, Int.reduceMul, Int.reduceNeg, Int.reduceToNat, Nat.reduceMul, Nat.reduceLT, Nat.reduceEqDiff, and_self, ite_true, ite_false, zx1, zx2, zRecv, List.length_cons, List.length_nil, ne_eq, not_true_eq_false, not_false_eq_true, true_or, or_true, or_false, false_or, and_false, false_and, zf01, zf10, reduceCtorEq, zSw_c, zSw_n, zm_r, zit_T, zit_F, false_implies, true_implies, f_M_wordOf, zc_355])
    obtain ⟨hb, hw⟩ := h
    have hbl : (bsL (μ 362) a.toNat b.toNat).length = b.toNat - a.toNat := bsL_len
    have hbg : ∀ i : Nat, i < b.toNat - a.toNat → (bsL (μ 362) a.toNat b.toNat)[i]? = some (μ 362 (a + i)) := fun i hi => by
      rw [bsL_get hi, show ((a.toNat : Nat) : Int) = a by omega]
    generalize bsL (μ 362) a.toNat b.toNat = bs at *
    refine zLoop.up 29 (fun j ρ μ1 => ∃ (x5 x6 x7 : zV), ρ = [vr 355, vi a, vi b, vi (j + 1), vi (wOff j), x5, x6, x7] ∧ μ = μ1 ∧ (zlong (some x5) = false ∧ zlong (some x6) = false ∧ zlong (some x7) = false) ∧ ∀ i : Nat, i < j → bs ≠ WL.getD i []) ⟨vx 0, vx 0, vx 0, by rw [wOff_0]; rfl, rfl, ⟨rfl, rfl, rfl⟩, fun i hi => by omega⟩ ?_
    rintro j ρ μ1 hj ⟨x5, x6, x7, rfl, rfl, ⟨l5, l6, l7⟩, hne⟩
    (try simp only [zit_e, Bool.and_eq_true, Bool.or_eq_true, Bool.not_eq_true', Bool.and_eq_false_iff, Bool.or_eq_false_iff, Bool.not_eq_false', zbe, zdt, zdf, zb2_p, zbp_0, zbp_1, zbp_inj, zbp_01, Bool.true_eq_false, Bool.false_eq_true, true_and, and_true, Decidable.not_not, Classical.not_not, implies_true, List.nil_append, List.cons_append, List.append_assoc, Option.some.injEq, Sum.inl.injEq, zSw_c, zSw_n]); (try simp only [zit_e, Bool.and_eq_true, Bool.or_eq_true, Bool.not_eq_true', Bool.and_eq_false_iff, Bool.or_eq_false_iff, Bool.not_eq_false', zbe, zdt, zdf, zb2_p, zbp_0, zbp_1, zbp_inj, zbp_01, Bool.true_eq_false, Bool.false_eq_true, true_and, and_true, Decidable.not_not, Classical.not_not, implies_true, List.nil_append, List.cons_append, List.append_assoc, Option.some.injEq, Sum.inl.injEq, zSw_c, zSw_n, zc_355]); (try simp only [zi_cs, zi_c0, zii_cs, zii_c0, zl_cs, zl_c0, zll_cs, zll_c0, zr_cs, zr_c0, zrr_cs, zrr_c0, zxs_cs, zxs_c0, zxx_cs, zxx_c0, zfree_c0, zfree_c1, zfree_cs, zfree_cz, zlong_i, zlong_r, zlong_x, zset_0, zset_s, true_and, and_true, Option.some.injEq, Sum.inl.injEq, Sum.inr.injEq, zb2_p, zbp_0, zbp_1, zbp_inj, zbp_01, Nat.zero_add, Nat.reduceAdd, implies_true, List.nil_append, List.cons_append, List.append_assoc, Int.not_lt, Int.not_le, Decidable.not_not, Int.zero_add, Int.reduceLE, Int.reduceLT, Int.reduceEq, Int.reduceNe, Int.reduceAdd, Int.reduceSub, Int.reduceMul, Int.reduceNeg, Int.reduceToNat, Nat.reduceMul, Nat.reduceLT, Nat.reduceEqDiff, and_self, ite_true, ite_false, zx1, zx2, zRecv, List.length_cons, List.length_nil, ne_eq, not_true_eq_false, not_false_eq_true, true_or, or_true, or_false, false_or, and_false, false_and, zf01, zf10, reduceCtorEq, zSw_c, zSw_n, zm_r, zit_T, zit_F, false_implies, true_implies, zc_355])
    refine zif (fun c => ?_) (fun c => ?_)
    · have hj2 : j < 29 := by
        rcases Nat.lt_or_ge j 29 with q | q
        · exact q
        · rw [show j = 29 by omega, wOff_e] at c
          omega
      obtain ⟨w1, w2, w3, w4, w5, w6⟩ := WL_j hj2
      obtain ⟨wd, hwd⟩ : ∃ wd, wd = WL.getD j [] := ⟨_, rfl⟩
      rw [← hwd] at w1 w2 w3 w4 w5 w6
      have wt : ∀ i : Nat, i ≤ wd.length → μ 361 ((wOff j : Int) + i) = wTab ((wOff j + i : Nat) : Int) := fun i hi => by
        rw [hw _ (by omega) (by omega), Int.natCast_add]
      have hP : bs = wd ↔ (((wd.length : Nat) : Int) = b - a ∧ ∀ q : Nat, q < wd.length → wd.getD q 0 = μ 362 (a + q)) := by
        constructor
        · rintro rfl
          refine ⟨by omega, fun q hq => ?_⟩
          rw [List.getD_eq_getElem?_getD, hbg q (by omega)]
          rfl
        · rintro ⟨h1, h2⟩
          apply List.ext_getElem?
          intro q
          by_cases hq : q < wd.length
          · have := h2 q hq
            rw [List.getD_eq_getElem?_getD, List.getElem?_eq_getElem hq] at this
            rw [hbg q (by omega), List.getElem?_eq_getElem hq, ← this]
            rfl
          · rw [List.getElem?_eq_none (by omega), List.getElem?_eq_none (by omega)]
      refine zLoop.up wd.length (fun i ρ μ1 => ρ = [vr 355, vi a, vi b, vi (j + 1), vi (wOff j), vi i, x6, x7] ∧ μ = μ1) ⟨rfl, rfl⟩ ?_
      rintro i ρ μ1 hi ⟨rfl, rfl⟩
      (try simp only [zit_e, Bool.and_eq_true, Bool.or_eq_true, Bool.not_eq_true', Bool.and_eq_false_iff, Bool.or_eq_false_iff, Bool.not_eq_false', zbe, zdt, zdf, zb2_p, zbp_0, zbp_1, zbp_inj, zbp_01, Bool.true_eq_false, Bool.false_eq_true, true_and, and_true, Decidable.not_not, Classical.not_not, implies_true, List.nil_append, List.cons_append, List.append_assoc, Option.some.injEq, Sum.inl.injEq, zSw_c, zSw_n]); (try simp only [zit_e, Bool.and_eq_true, Bool.or_eq_true, Bool.not_eq_true', Bool.and_eq_false_iff, Bool.or_eq_false_iff, Bool.not_eq_false', zbe, zdt, zdf, zb2_p, zbp_0, zbp_1, zbp_inj, zbp_01, Bool.true_eq_false, Bool.false_eq_true, true_and, and_true, Decidable.not_not, Classical.not_not, implies_true, List.nil_append, List.cons_append, List.append_assoc, Option.some.injEq, Sum.inl.injEq, zSw_c, zSw_n, zc_355]); (try simp only [zi_cs, zi_c0, zii_cs, zii_c0, zl_cs, zl_c0, zll_cs, zll_c0, zr_cs, zr_c0, zrr_cs, zrr_c0, zxs_cs, zxs_c0, zxx_cs, zxx_c0, zfree_c0, zfree_c1, zfree_cs, zfree_cz, zlong_i, zlong_r, zlong_x, zset_0, zset_s, true_and, and_true, Option.some.injEq, Sum.inl.injEq, Sum.inr.injEq, zb2_p, zbp_0, zbp_1, zbp_inj, zbp_01, Nat.zero_add, Nat.reduceAdd, implies_true, List.nil_append, List.cons_append, List.append_assoc, Int.not_lt, Int.not_le, Decidable.not_not, Int.zero_add, Int.reduceLE, Int.reduceLT, Int.reduceEq, Int.reduceNe, Int.reduceAdd, Int.reduceSub, Int.reduceMul, Int.reduceNeg, Int.reduceToNat, Nat.reduceMul, Nat.reduceLT, Nat.reduceEqDiff, and_self, ite_true, ite_false, zx1, zx2, zRecv, List.length_cons, List.length_nil, ne_eq, not_true_eq_false, not_false_eq_true, true_or, or_true, or_false, false_or, and_false, false_and, zf01, zf10, reduceCtorEq, zSw_c, zSw_n, zm_r, zit_T, zit_F, false_implies, true_implies, zc_355])
      rw [wt i hi]
      refine ⟨⟨zI_s (by omega) (by omega), by omega, by omega⟩, ?_⟩
      refine zif (fun c3 => ?_) (fun c3 => ?_)
      · have hi2 : i ≠ wd.length := fun e => c3 (by rw [e]; exact w3)
        exact ⟨zI_s (by omega) (by omega), znx (by omega) rfl⟩
      have hi2 : i = wd.length := by
        rcases Nat.lt_or_ge i wd.length with q | q
        · exact absurd (Classical.not_not.mp c3) (w6 i q).2
        · omega
      subst hi2
      refine ⟨by ((try simp only [zI_e]); (first | done | omega | skip)), ?_⟩
      refine zLoop.up wd.length (fun i ρ μ1 => ρ = [vr 355, vi a, vi b, vi (j + 1), vi (wOff j), vi wd.length, vi (zbp (((wd.length : Nat) : Int) = b - a ∧ ∀ q : Nat, q < i → wd.getD q 0 = μ 362 (a + q))), vi i] ∧ μ = μ1) ⟨by simp, rfl⟩ ?_
      rintro i ρ μ1 hi ⟨rfl, rfl⟩
      (try simp only [zit_e, Bool.and_eq_true, Bool.or_eq_true, Bool.not_eq_true', Bool.and_eq_false_iff, Bool.or_eq_false_iff, Bool.not_eq_false', zbe, zdt, zdf, zb2_p, zbp_0, zbp_1, zbp_inj, zbp_01, Bool.true_eq_false, Bool.false_eq_true, true_and, and_true, Decidable.not_not, Classical.not_not, implies_true, List.nil_append, List.cons_append, List.append_assoc, Option.some.injEq, Sum.inl.injEq, zSw_c, zSw_n]); (try simp only [zit_e, Bool.and_eq_true, Bool.or_eq_true, Bool.not_eq_true', Bool.and_eq_false_iff, Bool.or_eq_false_iff, Bool.not_eq_false', zbe, zdt, zdf, zb2_p, zbp_0, zbp_1, zbp_inj, zbp_01, Bool.true_eq_false, Bool.false_eq_true, true_and, and_true, Decidable.not_not, Classical.not_not, implies_true, List.nil_append, List.cons_append, List.append_assoc, Option.some.injEq, Sum.inl.injEq, zSw_c, zSw_n, zc_355]); (try simp only [zi_cs, zi_c0, zii_cs, zii_c0, zl_cs, zl_c0, zll_cs, zll_c0, zr_cs, zr_c0, zrr_cs, zrr_c0, zxs_cs, zxs_c0, zxx_cs, zxx_c0, zfree_c0, zfree_c1, zfree_cs, zfree_cz, zlong_i, zlong_r, zlong_x, zset_0, zset_s, true_and, and_true, Option.some.injEq, Sum.inl.injEq, Sum.inr.injEq, zb2_p, zbp_0, zbp_1, zbp_inj, zbp_01, Nat.zero_add, Nat.reduceAdd, implies_true, List.nil_append, List.cons_append, List.append_assoc, Int.not_lt, Int.not_le, Decidable.not_not, Int.zero_add, Int.reduceLE, Int.reduceLT, Int.reduceEq, Int.reduceNe, Int.reduceAdd, Int.reduceSub, Int.reduceMul, Int.reduceNeg, Int.reduceToNat, Nat.reduceMul, Nat.reduceLT, Nat.reduceEqDiff, and_self, ite_true, ite_false, zx1, zx2, zRecv, List.length_cons, List.length_nil, ne_eq, not_true_eq_false, not_false_eq_true, true_or, or_true, or_false, false_or, and_false, false_and, zf01, zf10, reduceCtorEq, zSw_c, zSw_n, zm_r, zit_T, zit_F, false_implies, true_implies, zc_355])
      have hS : (((wd.length : Nat) : Int) = b - a ∧ ∀ q : Nat, q < i + 1 → wd.getD q 0 = μ 362 (a + q)) ↔ (((wd.length : Nat) : Int) = b - a ∧ ∀ q : Nat, q < i → wd.getD q 0 = μ 362 (a + q)) ∧ wd.getD i 0 = μ 362 (a + i) := by
        constructor
        · rintro ⟨h1, h2⟩
          exact ⟨⟨h1, fun q hq => h2 q (by omega)⟩, h2 i (by omega)⟩
        · rintro ⟨⟨h1, h2⟩, h3⟩
          refine ⟨h1, fun q hq => ?_⟩
          by_cases e : q = i
          · rw [e]; exact h3
          · exact h2 q (by omega)
      refine zif (fun c4 => ?_) (fun c4 => ?_)
      · obtain ⟨c5, c6⟩ := c4
        have hlt : i < wd.length := by omega
        have hml : (i : Int) < b - a := by omega
        refine ⟨⟨⟨zI_s (by omega) (by omega), by omega, by omega⟩, zI_s (by omega) (by omega), by omega, by omega⟩, zI_s (by omega) (by omega), znx (by omega) ?_⟩
        have e6 : μ 361 ((wOff j : Int) + i) = wd.getD i 0 := by rw [wt i (by omega), (w6 i hlt).1]
        have e7 : (μ 361 ((wOff j : Int) + i) = μ 362 (a + i)) = (((wd.length : Nat) : Int) = b - a ∧ ∀ q : Nat, q < i + 1 → wd.getD q 0 = μ 362 (a + q)) := by
          apply propext
          rw [e6, hS]
          exact ⟨fun z => ⟨c6, z⟩, fun z => z.2⟩
        rw [e7]
        rfl
      · by_cases hs : (((wd.length : Nat) : Int) = b - a ∧ ∀ q : Nat, q < i → wd.getD q 0 = μ 362 (a + q))
        · rw [if_pos hs]
          have ei : i = wd.length := by
            rcases Nat.lt_or_ge i wd.length with q | q
            · exact absurd ⟨by omega, hs⟩ c4
            · omega
          rw [hP.mpr (by rw [← ei]; exact ⟨by rw [ei]; exact hs.1, hs.2⟩), w1]
        · rw [if_neg hs]
          have hnb : ¬ bs = wd := fun e => hs ⟨(hP.mp e).1, fun q hq => (hP.mp e).2 q (by omega)⟩
          refine ⟨⟨zI_s (by omega) (by omega), zI_s (by omega) (by omega)⟩, zI_s (by omega) (by omega), znx (by omega) ⟨vi wd.length, vi (zbp (((wd.length : Nat) : Int) = b - a ∧ ∀ q : Nat, q < i → wd.getD q 0 = μ 362 (a + q))), vi i, ?_, ⟨rfl, rfl, rfl⟩, fun q hq => ?_⟩⟩
          · rw [w2, Int.natCast_add, Int.natCast_add, Int.natCast_add, ← Int.add_assoc]
            rfl
          · by_cases e : q = j
            · rw [e, ← hwd]
              exact hnb
            · exact hne q (by omega)
    · have ej : j = 29 := by
        rcases Nat.lt_or_ge j 29 with q | q
        · have := (WL_j q).2.2.2.2.1
          omega
        · omega
      subst ej
      rw [wcode_0 hne]
  · exact h.elim

