/-! the rows counted, the first row -/
noncomputable def chS (P : Nat → Nat → Prop) (n b : Nat) : Int := fstN (fun k => P b k.toNat) n 0
/-- the set, and what was chosen last, when some have been chosen -/
noncomputable def frP (P : Nat → Nat → Prop) (n : Nat) : Nat → Nat × Int
  | 0 => (0, -1)
  | p + 1 => ((frP P n p).1 + 2 ^ (chS P n (frP P n p).1).toNat, chS P n (frP P n p).1)
theorem fstN_ex {p : Int → Prop} : ∀ (n : Nat) (x : Int), 0 ≤ x → (∃ k : Nat, k < n ∧ p (x + k)) → x ≤ fstN p n x ∧ fstN p n x < x + n ∧ p (fstN p n x)
  | 0, x, _, h => by
    obtain ⟨k, hk, _⟩ := h
    omega
  | n + 1, x, h0, h => by
    by_cases c : p x
    · rw [fstN, zit_t c]
      exact ⟨by omega, by omega, c⟩
    · rw [fstN, zit_f c]
      have := fstN_ex (p := p) n (x + 1) (by omega) (by
        obtain ⟨k, hk, hp⟩ := h
        rcases k with _ | k
        · exact absurd (by rw [Int.natCast_zero, Int.add_zero] at hp; exact hp) c
        · exact ⟨k, by omega, by rw [show x + 1 + (k : Int) = x + ((k + 1 : Nat) : Int) by omega]; exact hp⟩)
      exact ⟨by omega, by omega, this.2.2⟩
/-- what can be chosen next, so that a row is left -/
def nxS (L : List D4) (pu : Int → Int) (b k : Nat) : Prop := lcS L pu b k ∧ 0 < lnR L pu (L.length - pcN 8 (b + 2 ^ k)) (b + 2 ^ k)
theorem frP_S {L : List D4} {pu : Int → Int} (h8 : L.length ≤ 8) (h0 : 0 < lnR L pu L.length 0) : ∀ p : Nat, p ≤ L.length → ((frP (nxS L pu) L.length p).1 < 2 ^ L.length ∧ pcN 8 (frP (nxS L pu) L.length p).1 = p ∧ 0 < lnR L pu (L.length - p) (frP (nxS L pu) L.length p).1) ∧ (p < L.length → 0 ≤ chS (nxS L pu) L.length (frP (nxS L pu) L.length p).1 ∧ chS (nxS L pu) L.length (frP (nxS L pu) L.length p).1 < L.length ∧ nxS L pu (frP (nxS L pu) L.length p).1 (chS (nxS L pu) L.length (frP (nxS L pu) L.length p).1).toNat) := by
  have hp8 : 2 ^ L.length ≤ 2 ^ 8 := Nat.pow_le_pow_right (by decide) h8
  have step : ∀ (p b : Nat), p < L.length → b < 2 ^ L.length → pcN 8 b = p → 0 < lnR L pu (L.length - p) b → 0 ≤ chS (nxS L pu) L.length b ∧ chS (nxS L pu) L.length b < L.length ∧ nxS L pu b (chS (nxS L pu) L.length b).toNat := by
    intro p b hp hb hc hr
    rw [show L.length - p = (L.length - (p + 1)) + 1 by omega, lnR] at hr
    obtain ⟨k, k1, k2, k3⟩ := rwS_pos (fun x => (lnR_in h8 _ x).1) _ hr
    have hz := zor_set (c := b) (i := k) (by omega) (by omega) k2.1
    have := fstN_ex (p := fun k => nxS L pu b k.toNat) L.length 0 (by omega) ⟨k, k1, by
      show nxS L pu b (0 + (k : Int)).toNat
      rw [Int.zero_add, Int.toNat_natCast]
      refine ⟨k2, ?_⟩
      rw [hz.2.1, hc]
      exact k3⟩
    exact ⟨this.1, by have := this.2.1; unfold chS; omega, this.2.2⟩
  intro p
  induction p with
  | zero =>
    intro _
    have hb : (0 : Nat) < 2 ^ L.length := Nat.two_pow_pos _
    have hz : pcN 8 0 = 0 := by decide
    refine ⟨⟨hb, hz, h0⟩, fun hp => step 0 0 hp hb hz h0⟩
  | succ p ih =>
    intro hp
    obtain ⟨⟨i1, i2, i3⟩, i4⟩ := ih (by omega)
    obtain ⟨j1, j2, j3⟩ := i4 (by omega)
    have eb : (frP (nxS L pu) L.length (p + 1)).1 = (frP (nxS L pu) L.length p).1 + 2 ^ (chS (nxS L pu) L.length (frP (nxS L pu) L.length p).1).toNat := rfl
    generalize (frP (nxS L pu) L.length p).1 = b at *
    generalize (frP (nxS L pu) L.length (p + 1)).1 = b1 at *
    obtain ⟨k, hk⟩ : ∃ k : Nat, chS (nxS L pu) L.length b = k := ⟨_, (Int.toNat_of_nonneg j1).symm⟩
    rw [hk, Int.toNat_natCast] at eb j3
    have hz := zor_set (c := b) (i := k) (by omega) (by omega) j3.1.1
    have hkt : b.testBit k = false := by
      cases q : b.testBit k with
      | false => rfl
      | true => exact absurd (zbit_n.mpr q) j3.1.1
    have hlt := sub_all h8 i1 (show k < L.length by omega) hkt
    have j4 := j3.2
    rw [hz.2.1, i2] at j4
    subst eb
    have hc : pcN 8 (b + 2 ^ k) = p + 1 := by rw [hz.2.1, i2]
    exact ⟨⟨hlt, hc, j4⟩, fun hp2 => step (p + 1) (b + 2 ^ k) hp2 hlt hc j4⟩
theorem nk_2_4 : zNk 2 4 = none := rfl
theorem m_Ln_canCome : Cond.instanceMethod y_Ln_canCome.1 ∈ zTb ∧ Cond.selects y_Ln_canCome.1.cls y_Ln_canCome.1 y_Ln_canCome.1 ∈ zTb ∧ Cond.initialized y_Ln_canCome.1.cls ∈ zTb ∧ Cond.code y_Ln_canCome.1 y_Ln_canCome.2.1 y_Ln_canCome.2.2.1 y_Ln_canCome.2.2.2 ∈ zTb ∧ (y_Ln_canCome.1.cls ≠ "java/lang/invoke/MethodHandle" ∧ y_Ln_canCome.1.cls ≠ "java/lang/invoke/VarHandle" ∧ (parseMethodDescriptor y_Ln_canCome.1.desc).map (fun d => d.parameters.length) = some 3) ∧ y_Ln_canCome.2.2.1 ≤ 20 :=
  ⟨(zTb_in 1119 (by decide +kernel) (by decide +kernel)), (List.mem_filter.mpr ⟨List.mem_append_left _ (by decide +kernel), by decide +kernel⟩), (zTb_in 146 (by decide +kernel) (by decide +kernel)), (zTb_in 1120 (by decide +kernel) (by decide +kernel)), by decide +kernel, by decide +kernel⟩
theorem lv_Ln_62 : zLv "DebtDoors$Lendings" 62 y_Ln_canCome 3 2 := ⟨⟨(zTb_in 1117 (by decide +kernel) (by decide +kernel)), m_Ln_canCome.1, m_Ln_canCome.2.1, m_Ln_canCome.2.2⟩, _, rfl, rfl⟩
def y_Ln_countRows : zMt := (⟨"DebtDoors$Lendings", "countRows", "(LDebtDoors$Ledger;)I"⟩, prog_4_method_5_code, 6, some .int)
theorem d_Ln_countRows_0 : decode prog_4_method_5_code 0 = .ok (.iconst 1, 1) := by decide +kernel
theorem d_Ln_countRows_1 : decode prog_4_method_5_code 1 = .ok (.aload_n 0, 1) := by decide +kernel
theorem d_Ln_countRows_2 : decode prog_4_method_5_code 2 = .ok (.getfield 27, 3) := by decide +kernel
theorem d_Ln_countRows_5 : decode prog_4_method_5_code 5 = .ok (.ishl, 1) := by decide +kernel
theorem d_Ln_countRows_6 : decode prog_4_method_5_code 6 = .ok (.iconst 1, 1) := by decide +kernel
theorem d_Ln_countRows_7 : decode prog_4_method_5_code 7 = .ok (.isub, 1) := by decide +kernel
theorem d_Ln_countRows_8 : decode prog_4_method_5_code 8 = .ok (.istore_n 2, 1) := by decide +kernel
theorem d_Ln_countRows_9 : decode prog_4_method_5_code 9 = .ok (.aload_n 0, 1) := by decide +kernel
theorem d_Ln_countRows_10 : decode prog_4_method_5_code 10 = .ok (.getfield 24, 3) := by decide +kernel
theorem d_Ln_countRows_13 : decode prog_4_method_5_code 13 = .ok (.iload_n 2, 1) := by decide +kernel
theorem d_Ln_countRows_14 : decode prog_4_method_5_code 14 = .ok (.iconst 1, 1) := by decide +kernel
theorem d_Ln_countRows_15 : decode prog_4_method_5_code 15 = .ok (.iastore, 1) := by decide +kernel
theorem d_Ln_countRows_16 : decode prog_4_method_5_code 16 = .ok (.iload_n 2, 1) := by decide +kernel
theorem d_Ln_countRows_17 : decode prog_4_method_5_code 17 = .ok (.iconst 1, 1) := by decide +kernel
theorem d_Ln_countRows_18 : decode prog_4_method_5_code 18 = .ok (.isub, 1) := by decide +kernel
theorem d_Ln_countRows_19 : decode prog_4_method_5_code 19 = .ok (.istore_n 3, 1) := by decide +kernel
theorem d_Ln_countRows_20 : decode prog_4_method_5_code 20 = .ok (.iload_n 3, 1) := by decide +kernel
theorem d_Ln_countRows_21 : decode prog_4_method_5_code 21 = .ok (.ifCond .lt 65, 3) := by decide +kernel
theorem d_Ln_countRows_24 : decode prog_4_method_5_code 24 = .ok (.iconst 0, 1) := by decide +kernel
theorem d_Ln_countRows_25 : decode prog_4_method_5_code 25 = .ok (.istore 4, 2) := by decide +kernel
theorem d_Ln_countRows_27 : decode prog_4_method_5_code 27 = .ok (.iconst 0, 1) := by decide +kernel
theorem d_Ln_countRows_28 : decode prog_4_method_5_code 28 = .ok (.istore 5, 2) := by decide +kernel
theorem d_Ln_countRows_30 : decode prog_4_method_5_code 30 = .ok (.iload 5, 2) := by decide +kernel
theorem d_Ln_countRows_32 : decode prog_4_method_5_code 32 = .ok (.aload_n 0, 1) := by decide +kernel
theorem d_Ln_countRows_33 : decode prog_4_method_5_code 33 = .ok (.getfield 27, 3) := by decide +kernel
theorem d_Ln_countRows_36 : decode prog_4_method_5_code 36 = .ok (.if_icmp .ge 36, 3) := by decide +kernel
theorem d_Ln_countRows_39 : decode prog_4_method_5_code 39 = .ok (.aload_n 0, 1) := by decide +kernel
theorem d_Ln_countRows_40 : decode prog_4_method_5_code 40 = .ok (.aload_n 1, 1) := by decide +kernel
theorem d_Ln_countRows_41 : decode prog_4_method_5_code 41 = .ok (.iload_n 3, 1) := by decide +kernel
theorem d_Ln_countRows_42 : decode prog_4_method_5_code 42 = .ok (.iload 5, 2) := by decide +kernel
theorem d_Ln_countRows_44 : decode prog_4_method_5_code 44 = .ok (.invokevirtual 62, 3) := by decide +kernel
theorem d_Ln_countRows_47 : decode prog_4_method_5_code 47 = .ok (.ifCond .eq 19, 3) := by decide +kernel
theorem d_Ln_countRows_50 : decode prog_4_method_5_code 50 = .ok (.iload 4, 2) := by decide +kernel
theorem d_Ln_countRows_52 : decode prog_4_method_5_code 52 = .ok (.aload_n 0, 1) := by decide +kernel
theorem d_Ln_countRows_53 : decode prog_4_method_5_code 53 = .ok (.getfield 24, 3) := by decide +kernel
theorem d_Ln_countRows_56 : decode prog_4_method_5_code 56 = .ok (.iload_n 3, 1) := by decide +kernel
theorem d_Ln_countRows_57 : decode prog_4_method_5_code 57 = .ok (.iconst 1, 1) := by decide +kernel
theorem d_Ln_countRows_58 : decode prog_4_method_5_code 58 = .ok (.iload 5, 2) := by decide +kernel
theorem d_Ln_countRows_60 : decode prog_4_method_5_code 60 = .ok (.ishl, 1) := by decide +kernel
theorem d_Ln_countRows_61 : decode prog_4_method_5_code 61 = .ok (.ior, 1) := by decide +kernel
theorem d_Ln_countRows_62 : decode prog_4_method_5_code 62 = .ok (.iaload, 1) := by decide +kernel
theorem d_Ln_countRows_63 : decode prog_4_method_5_code 63 = .ok (.iadd, 1) := by decide +kernel
theorem d_Ln_countRows_64 : decode prog_4_method_5_code 64 = .ok (.istore 4, 2) := by decide +kernel
theorem d_Ln_countRows_66 : decode prog_4_method_5_code 66 = .ok (.iinc 5 1, 3) := by decide +kernel
theorem d_Ln_countRows_69 : decode prog_4_method_5_code 69 = .ok (.goto (-39), 3) := by decide +kernel
theorem d_Ln_countRows_72 : decode prog_4_method_5_code 72 = .ok (.aload_n 0, 1) := by decide +kernel
theorem d_Ln_countRows_73 : decode prog_4_method_5_code 73 = .ok (.getfield 24, 3) := by decide +kernel
theorem d_Ln_countRows_76 : decode prog_4_method_5_code 76 = .ok (.iload_n 3, 1) := by decide +kernel
theorem d_Ln_countRows_77 : decode prog_4_method_5_code 77 = .ok (.iload 4, 2) := by decide +kernel
theorem d_Ln_countRows_79 : decode prog_4_method_5_code 79 = .ok (.iastore, 1) := by decide +kernel
theorem d_Ln_countRows_80 : decode prog_4_method_5_code 80 = .ok (.iinc 3 (-1), 3) := by decide +kernel
theorem d_Ln_countRows_83 : decode prog_4_method_5_code 83 = .ok (.goto (-63), 3) := by decide +kernel
theorem d_Ln_countRows_86 : decode prog_4_method_5_code 86 = .ok (.aload_n 0, 1) := by decide +kernel
theorem d_Ln_countRows_87 : decode prog_4_method_5_code 87 = .ok (.getfield 24, 3) := by decide +kernel
theorem d_Ln_countRows_90 : decode prog_4_method_5_code 90 = .ok (.iconst 0, 1) := by decide +kernel
theorem d_Ln_countRows_91 : decode prog_4_method_5_code 91 = .ok (.iaload, 1) := by decide +kernel
theorem d_Ln_countRows_92 : decode prog_4_method_5_code 92 = .ok (.ireturn, 1) := by decide +kernel
def w_Ln_countRows {d : Nat} (hd : 3 ≤ d) := (show SS ("DebtDoors$Lendings", prog_4_method_5_code, 6) (some .int) d 0 0 0 0 _ from (sS (p1 := 9) (sIn 2 (xE (r2 o_sub (r2 o_shl (rI d_Ln_countRows_0 rfl) (rF 5 fl_Ln_27 nk_2_5 (rAn 0 d_Ln_countRows_1 rfl) d_Ln_countRows_2 rfl) d_Ln_countRows_5) (rI d_Ln_countRows_6 rfl) d_Ln_countRows_7)) d_Ln_countRows_8 rfl (by decide)) (sS (p1 := 16) (sAs (rFr fl_Ln_24 nk_2_4 (rAn 0 d_Ln_countRows_9 rfl) d_Ln_countRows_10) (rIn 2 d_Ln_countRows_13 rfl) (xE (rI d_Ln_countRows_14 rfl)) d_Ln_countRows_15) (sS (p1 := 86) (sS (p1 := 20) (sIn 3 (xE (r2 o_sub (rIn 2 d_Ln_countRows_16 rfl) (rI d_Ln_countRows_17 rfl) d_Ln_countRows_18)) d_Ln_countRows_19 rfl (by decide)) (sLp (ps := 80) (tt := 24) (pn := 86) (p1 := 0) (p2 := 0) (xC (rNot (rJ1 (tgt := 86) k_lt (rIn 3 d_Ln_countRows_20 rfl) d_Ln_countRows_21 (by decide)))) (sS (p1 := 27) (sI (xE (rI d_Ln_countRows_24 rfl)) d_Ln_countRows_25 (by decide)) (sS (p1 := 72) (sS (p1 := 30) (sI (xE (rI d_Ln_countRows_27 rfl)) d_Ln_countRows_28 (by decide)) (sLp (ps := 66) (tt := 39) (pn := 72) (p1 := 0) (p2 := 0) (xC (rNot (rJ2 (tgt := 72) j_ge (rIl d_Ln_countRows_30) (rF 5 fl_Ln_27 nk_2_5 (rAn 0 d_Ln_countRows_32 rfl) d_Ln_countRows_33 rfl) d_Ln_countRows_36 (by decide)))) (sIf (pn := 66) (tt := 50) (xC (rNot (rJ1 (tgt := 66) k_eq (rV p_Ln_canCome (Nat.le_trans (Nat.le_of_ble_eq_true rfl) hd) lv_Ln_62 (rAi (rAi (rAr (rAr rA0 (rAn 0 d_Ln_countRows_39 rfl)) (rAn 1 d_Ln_countRows_40 rfl)) (rIn 3 d_Ln_countRows_41 rfl)) (rIl d_Ln_countRows_42)) (by decide) d_Ln_countRows_44) d_Ln_countRows_47 (by decide)))) (sI (xE (r2 o_add (rIl d_Ln_countRows_50) (rIa (rFr fl_Ln_24 nk_2_4 (rAn 0 d_Ln_countRows_52 rfl) d_Ln_countRows_53) (r2 o_or (rIn 3 d_Ln_countRows_56 rfl) (r2 o_shl (rI d_Ln_countRows_57 rfl) (rIl d_Ln_countRows_58) d_Ln_countRows_60) d_Ln_countRows_61) d_Ln_countRows_62) d_Ln_countRows_63)) d_Ln_countRows_64 (by decide))) (sGo (pn := 30) (sInc d_Ln_countRows_66 (by decide)) d_Ln_countRows_69 (by decide)))) (sAs (rFr fl_Ln_24 nk_2_4 (rAn 0 d_Ln_countRows_72 rfl) d_Ln_countRows_73) (rIn 3 d_Ln_countRows_76 rfl) (xE (rIl d_Ln_countRows_77)) d_Ln_countRows_79))) (sGo (pn := 20) (sInc d_Ln_countRows_80 (by decide)) d_Ln_countRows_83 (by decide)))) (sRi (xE (rIa (rFr fl_Ln_24 nk_2_4 (rAn 0 d_Ln_countRows_86 rfl) d_Ln_countRows_87) (rI d_Ln_countRows_90 rfl) d_Ln_countRows_91)) d_Ln_countRows_92 rfl)))))
theorem q_Ln_countRows {d : Nat} (hd : 5 ≤ d) {μ : zMem} {L : List D4} {pu : Int → Int} (hA : LnC L μ) (h5 : μ 328 5 = (L.length : Int)) (h8 : L.length ≤ 8) (hL : ∀ x, x ∈ L → okL4 x) (hp : ∀ p : Int, 0 ≤ p → p < 7 → μ 3 p = pu p) (hP : okP (μ 3)) : zSp d 0 0 y_Ln_countRows zT0 [vr 328, vr 2] μ zT0 (fun q μ' => q = some (vi (lnR L pu L.length 0)) ∧ (∀ b : Nat, b < 2 ^ L.length → μ' 333 b = lnR L pu (L.length - pcN 8 b) b) ∧ zfc [333] μ μ') := by
  refine zSp.ss [vr 328, vr 2, vx 0, vx 0, vx 0, vx 0] rfl (w_Ln_countRows (Nat.le_trans (by decide) hd)) rfl rfl ?_
  have hsh : zshl 1 (L.length : Int) = ((2 ^ L.length : Nat) : Int) := zshl_n (by omega)
  have hp8 : 2 ^ L.length ≤ 2 ^ 8 := Nat.pow_le_pow_right (by decide) h8
  have h256 : (2 : Nat) ^ 8 = 256 := by decide
  have hpos : 1 ≤ 2 ^ L.length := Nat.one_le_two_pow
  have hall := pc_all h8
  (try simp only [zit_e, Bool.and_eq_true, Bool.or_eq_true, Bool.not_eq_true', Bool.and_eq_false_iff, Bool.or_eq_false_iff, Bool.not_eq_false', zbe, zdt, zdf, zb2_p, zbp_0, zbp_1, zbp_inj, zbp_01, Bool.true_eq_false, Bool.false_eq_true, true_and, and_true, Decidable.not_not, Classical.not_not, implies_true, List.nil_append, List.cons_append, List.append_assoc, Option.some.injEq, Sum.inl.injEq, zSw_c, zSw_n]); (try simp only [zit_e, Bool.and_eq_true, Bool.or_eq_true, Bool.not_eq_true', Bool.and_eq_false_iff, Bool.or_eq_false_iff, Bool.not_eq_false', zbe, zdt, zdf, zb2_p, zbp_0, zbp_1, zbp_inj, zbp_01, Bool.true_eq_false, Bool.false_eq_true, true_and, and_true, Decidable.not_not, Classical.not_not, implies_true, List.nil_append, List.cons_append, List.append_assoc, Option.some.injEq, Sum.inl.injEq, zSw_c, zSw_n, zc_328, zc_2]); (try simp only [zi_cs, zi_c0, zii_cs, zii_c0, zl_cs, zl_c0, zll_cs, zll_c0, zr_cs, zr_c0, zrr_cs, zrr_c0, zxs_cs, zxs_c0, zxx_cs, zxx_c0, zfree_c0, zfree_c1, zfree_cs, zfree_cz, zlong_i, zlong_r, zlong_x, zset_0, zset_s, true_and, and_true, Option.some.injEq, Sum.inl.injEq, Sum.inr.injEq, zb2_p, zbp_0, zbp_1, zbp_inj, zbp_01, Nat.zero_add, Nat.reduceAdd, implies_true, List.nil_append, List.cons_append, List.append_assoc, Int.not_lt, Int.not_le, Decidable.not_not, Int.zero_add, Int.reduceLE, Int.reduceLT, Int.reduceEq, Int.reduceNe, Int.reduceAdd, Int.reduceSub, Int.reduceMul, Int.reduceNeg, Int.reduceToNat, Nat.reduceMul, Nat.reduceLT, Nat.reduceEqDiff, and_self, ite_true, ite_false, zx1, zx2, zRecv, List.length_cons, List.length_nil, ne_eq, not_true_eq_false, not_false_eq_true, true_or, or_true, or_false, false_or, and_false, false_and, zf01, zf10, reduceCtorEq, zSw_c, zSw_n, zm_r, zit_T, zit_F, false_implies, true_implies, zc_328, zc_2])
  rw [h5, hsh]
  generalize hM : 2 ^ L.length = M at *
  refine ⟨zI_s (by omega) (by omega), by omega, by omega, zI_s (by omega) (by omega), ?_⟩
  refine zLoop.up (M - 1) (fun s ρ μ1 => ∃ x4 x5 : zV, ρ = [vr 328, vr 2, vi ((M : Int) - 1), vi ((M : Int) - 1 - 1 - s), x4, x5] ∧ (∀ b : Nat, M - 1 - s ≤ b → b < M → μ1 333 b = lnR L pu (L.length - pcN 8 b) b) ∧ zfc [333] μ μ1) ⟨_, _, by rw [Int.natCast_zero, Int.sub_zero], fun b hb1 hb2 => ?_, zfc.rf.zm (by decide)⟩ ?_
  · rw [show b = M - 1 by omega, hall.1, Nat.sub_self, show ((M - 1 : Nat) : Int) = (M : Int) - 1 by omega, zm_s]
    rfl
  rintro s ρ μ1 hs ⟨x4, x5, rfl, hT, hF⟩
  have k328 : μ1 328 = μ 328 := hF 328 (by decide)
  have kA : LnC L μ1 := by
    unfold LnC
    rw [hF 329 (by decide), hF 330 (by decide), hF 331 (by decide), hF 332 (by decide)]
    exact hA
  have k5 : μ1 328 5 = (L.length : Int) := by rw [k328]; exact h5
  have kp : ∀ p : Int, 0 ≤ p → p < 7 → μ1 3 p = pu p := fun p x y => by rw [hF 3 (by decide)]; exact hp p x y
  have kN : okN μ1 := okN_L kA k5 h8 hL (by rw [hF 3 (by decide)]; exact hP)
  (try simp only [zit_e, Bool.and_eq_true, Bool.or_eq_true, Bool.not_eq_true', Bool.and_eq_false_iff, Bool.or_eq_false_iff, Bool.not_eq_false', zbe, zdt, zdf, zb2_p, zbp_0, zbp_1, zbp_inj, zbp_01, Bool.true_eq_false, Bool.false_eq_true, true_and, and_true, Decidable.not_not, Classical.not_not, implies_true, List.nil_append, List.cons_append, List.append_assoc, Option.some.injEq, Sum.inl.injEq, zSw_c, zSw_n]); (try simp only [zit_e, Bool.and_eq_true, Bool.or_eq_true, Bool.not_eq_true', Bool.and_eq_false_iff, Bool.or_eq_false_iff, Bool.not_eq_false', zbe, zdt, zdf, zb2_p, zbp_0, zbp_1, zbp_inj, zbp_01, Bool.true_eq_false, Bool.false_eq_true, true_and, and_true, Decidable.not_not, Classical.not_not, implies_true, List.nil_append, List.cons_append, List.append_assoc, Option.some.injEq, Sum.inl.injEq, zSw_c, zSw_n, zc_328, zc_2]); (try simp only [zi_cs, zi_c0, zii_cs, zii_c0, zl_cs, zl_c0, zll_cs, zll_c0, zr_cs, zr_c0, zrr_cs, zrr_c0, zxs_cs, zxs_c0, zxx_cs, zxx_c0, zfree_c0, zfree_c1, zfree_cs, zfree_cz, zlong_i, zlong_r, zlong_x, zset_0, zset_s, true_and, and_true, Option.some.injEq, Sum.inl.injEq, Sum.inr.injEq, zb2_p, zbp_0, zbp_1, zbp_inj, zbp_01, Nat.zero_add, Nat.reduceAdd, implies_true, List.nil_append, List.cons_append, List.append_assoc, Int.not_lt, Int.not_le, Decidable.not_not, Int.zero_add, Int.reduceLE, Int.reduceLT, Int.reduceEq, Int.reduceNe, Int.reduceAdd, Int.reduceSub, Int.reduceMul, Int.reduceNeg, Int.reduceToNat, Nat.reduceMul, Nat.reduceLT, Nat.reduceEqDiff, and_self, ite_true, ite_false, zx1, zx2, zRecv, List.length_cons, List.length_nil, ne_eq, not_true_eq_false, not_false_eq_true, true_or, or_true, or_false, false_or, and_false, false_and, zf01, zf10, reduceCtorEq, zSw_c, zSw_n, zm_r, zit_T, zit_F, false_implies, true_implies, zc_328, zc_2])
  refine zif (fun c => ?_) (fun c => ?_)
  · obtain ⟨b, hb⟩ : ∃ b : Nat, (M : Int) - 1 - 1 - s = b := ⟨_, (Int.toNat_of_nonneg c).symm⟩
    have hbM : b + 1 < M := by omega
    have hpc : pcN 8 b < L.length := by
      have h1 := pc_le (n := L.length) (c := b) h8 (by omega)
      rcases Nat.lt_or_ge (pcN 8 b) L.length with q | q
      · exact q
      · have := hall.2 b (by omega) (by omega)
        omega
    rw [hb]
    refine zLoop.up L.length (fun i ρ μ2 => ρ = [vr 328, vr 2, vi ((M : Int) - 1), vi b, vi (rwS L pu (lnR L pu (L.length - pcN 8 b - 1)) b i), vi i] ∧ μ1 = μ2) ⟨rfl, rfl⟩ ?_
    rintro i ρ μ2 hi ⟨rfl, rfl⟩
    (try simp only [zit_e, Bool.and_eq_true, Bool.or_eq_true, Bool.not_eq_true', Bool.and_eq_false_iff, Bool.or_eq_false_iff, Bool.not_eq_false', zbe, zdt, zdf, zb2_p, zbp_0, zbp_1, zbp_inj, zbp_01, Bool.true_eq_false, Bool.false_eq_true, true_and, and_true, Decidable.not_not, Classical.not_not, implies_true, List.nil_append, List.cons_append, List.append_assoc, Option.some.injEq, Sum.inl.injEq, zSw_c, zSw_n]); (try simp only [zit_e, Bool.and_eq_true, Bool.or_eq_true, Bool.not_eq_true', Bool.and_eq_false_iff, Bool.or_eq_false_iff, Bool.not_eq_false', zbe, zdt, zdf, zb2_p, zbp_0, zbp_1, zbp_inj, zbp_01, Bool.true_eq_false, Bool.false_eq_true, true_and, and_true, Decidable.not_not, Classical.not_not, implies_true, List.nil_append, List.cons_append, List.append_assoc, Option.some.injEq, Sum.inl.injEq, zSw_c, zSw_n, zc_328, zc_2, f_Ln_canCome, g_Ln_canCome]); (try simp only [zi_cs, zi_c0, zii_cs, zii_c0, zl_cs, zl_c0, zll_cs, zll_c0, zr_cs, zr_c0, zrr_cs, zrr_c0, zxs_cs, zxs_c0, zxx_cs, zxx_c0, zfree_c0, zfree_c1, zfree_cs, zfree_cz, zlong_i, zlong_r, zlong_x, zset_0, zset_s, true_and, and_true, Option.some.injEq, Sum.inl.injEq, Sum.inr.injEq, zb2_p, zbp_0, zbp_1, zbp_inj, zbp_01, Nat.zero_add, Nat.reduceAdd, implies_true, List.nil_append, List.cons_append, List.append_assoc, Int.not_lt, Int.not_le, Decidable.not_not, Int.zero_add, Int.reduceLE, Int.reduceLT, Int.reduceEq, Int.reduceNe, Int.reduceAdd, Int.reduceSub, Int.reduceMul, Int.reduceNeg, Int.reduceToNat, Nat.reduceMul, Nat.reduceLT, Nat.reduceEqDiff, and_self, ite_true, ite_false, zx1, zx2, zRecv, List.length_cons, List.length_nil, ne_eq, not_true_eq_false, not_false_eq_true, true_or, or_true, or_false, false_or, and_false, false_and, zf01, zf10, reduceCtorEq, zSw_c, zSw_n, zm_r, zit_T, zit_F, false_implies, true_implies, zc_328, zc_2, f_Ln_canCome, g_Ln_canCome])
    rw [k5]
    have hM8 : ((8 ^ (L.length - pcN 8 b - 1) : Nat) : Int) ≤ ((8 ^ 7 : Nat) : Int) := by
      have : 8 ^ (L.length - pcN 8 b - 1) ≤ 8 ^ 7 := Nat.pow_le_pow_right (by decide) (by omega)
      exact_mod_cast this
    have h87 : ((8 ^ 7 : Nat) : Int) = 2097152 := by decide
    have r1 := rwS_in (L := L) (pu := pu) (f := lnR L pu (L.length - pcN 8 b - 1)) (b := b) (M := 2097152) (by decide) (fun x => by have := lnR_in (pu := pu) h8 (L.length - pcN 8 b - 1) x; omega) i
    have es : rwS L pu (lnR L pu (L.length - pcN 8 b - 1)) b (i + 1) = rwS L pu (lnR L pu (L.length - pcN 8 b - 1)) b i + zit (lcS L pu b i) (lnR L pu (L.length - pcN 8 b - 1) (b + 2 ^ i)) 0 := rfl
    refine zif (fun c1 => ?_) (fun c1 => ?_)
    · have hlc := lcM_S kA k5 hL kp (b := b) (i := i) (by omega)
      refine ⟨⟨kN, by omega, by omega⟩, ?_⟩
      refine zif (fun c2 => ?_) (fun c2 => ?_)
      all_goals rw [zbp_0] at c2
      · have c2 := hlc.mp (Classical.not_not.mp c2)
        have hz := zor_set (c := b) (i := i) (by omega) (by omega) c2.1
        have hkt : b.testBit i = false := by
          cases q : b.testBit i with
          | false => rfl
          | true => exact absurd (zbit_n.mpr q) c2.1
        have hlt := sub_all h8 (by omega) (show i < L.length by omega) hkt
        have hpi : 1 ≤ 2 ^ i := Nat.one_le_two_pow
        have hT1 := hT (b + 2 ^ i) (by omega) (by omega)
        rw [hz.2.1, show L.length - (pcN 8 b + 1) = L.length - pcN 8 b - 1 by omega] at hT1
        have hv := lnR_in (pu := pu) h8 (L.length - pcN 8 b - 1) (b + 2 ^ i)
        rw [zit_t c2] at es
        rw [hz.1, hT1]
        exact ⟨by ((repeat' apply And.intro) <;> (first | omega | (simp only [zI_e]; omega) | exact True.intro | (intro _; (repeat' apply And.intro) <;> (first | omega | (simp only [zI_e]; omega) | exact True.intro)))), zI_s (by omega) (by omega), L.length - (i + 1), by omega, i + 1, rfl, by omega, by rw [es]; rfl⟩
      · rw [zit_f (fun q => c2 (fun z => z (hlc.mpr q)))] at es
        exact ⟨zI_s (by omega) (by omega), L.length - (i + 1), by omega, i + 1, rfl, by omega, by rw [es, Int.add_zero]; rfl⟩
    · have ei : i = L.length := by omega
      subst ei
      refine ⟨by omega, by omega, by ((repeat' apply And.intro) <;> (first | omega | (simp only [zI_e]; omega) | exact True.intro | (intro _; (repeat' apply And.intro) <;> (first | omega | (simp only [zI_e]; omega) | exact True.intro)))), M - 1 - (s + 1), by omega, s + 1, rfl, by omega, _, _, by rw [show (b : Int) + -1 = (M : Int) - 1 - 1 - ((s + 1 : Nat) : Int) by omega], fun b2 q1 q2 => ?_, hF.zm (by decide)⟩
      by_cases eb : b2 = b
      · subst eb
        rw [zit_t rfl, show L.length - pcN 8 b2 = (L.length - pcN 8 b2 - 1) + 1 by omega]
        rfl
      · rw [zit_f (by omega)]
        exact hT b2 (by omega) q2
  · have e0 := hT 0 (by omega) (by omega)
    have ez : ((0 : Nat) : Int) = 0 := rfl
    rw [ez, show pcN 8 0 = 0 by decide, Nat.sub_zero] at e0
    exact ⟨e0, fun b hb => hT b (by omega) hb, hF⟩
/-- what the class's first row asks -/
def nxM (μ : zMem) (b k : Nat) : Prop := lcM μ b k ∧ 0 < μ 333 ((b + 2 ^ k : Nat) : Int)
def y_Ln_inFirstRow : zMt := (⟨"DebtDoors$Lendings", "inFirstRow", "(LDebtDoors$Ledger;I)I"⟩, prog_4_method_8_code, 7, some .int)
theorem d_Ln_inFirstRow_0 : decode prog_4_method_8_code 0 = .ok (.iconst 0, 1) := by decide +kernel
theorem d_Ln_inFirstRow_1 : decode prog_4_method_8_code 1 = .ok (.istore_n 3, 1) := by decide +kernel
theorem d_Ln_inFirstRow_2 : decode prog_4_method_8_code 2 = .ok (.iconst (-1), 1) := by decide +kernel
theorem d_Ln_inFirstRow_3 : decode prog_4_method_8_code 3 = .ok (.istore 4, 2) := by decide +kernel
theorem d_Ln_inFirstRow_5 : decode prog_4_method_8_code 5 = .ok (.iconst 0, 1) := by decide +kernel
theorem d_Ln_inFirstRow_6 : decode prog_4_method_8_code 6 = .ok (.istore 5, 2) := by decide +kernel
theorem d_Ln_inFirstRow_8 : decode prog_4_method_8_code 8 = .ok (.iload 5, 2) := by decide +kernel
theorem d_Ln_inFirstRow_10 : decode prog_4_method_8_code 10 = .ok (.iload_n 2, 1) := by decide +kernel
theorem d_Ln_inFirstRow_11 : decode prog_4_method_8_code 11 = .ok (.if_icmp .gt 89, 3) := by decide +kernel
theorem d_Ln_inFirstRow_14 : decode prog_4_method_8_code 14 = .ok (.iload 5, 2) := by decide +kernel
theorem d_Ln_inFirstRow_16 : decode prog_4_method_8_code 16 = .ok (.aload_n 0, 1) := by decide +kernel
theorem d_Ln_inFirstRow_17 : decode prog_4_method_8_code 17 = .ok (.getfield 27, 3) := by decide +kernel
theorem d_Ln_inFirstRow_20 : decode prog_4_method_8_code 20 = .ok (.if_icmp .ge 80, 3) := by decide +kernel
theorem d_Ln_inFirstRow_23 : decode prog_4_method_8_code 23 = .ok (.iconst (-1), 1) := by decide +kernel
theorem d_Ln_inFirstRow_24 : decode prog_4_method_8_code 24 = .ok (.istore 4, 2) := by decide +kernel
theorem d_Ln_inFirstRow_26 : decode prog_4_method_8_code 26 = .ok (.iconst 0, 1) := by decide +kernel
theorem d_Ln_inFirstRow_27 : decode prog_4_method_8_code 27 = .ok (.istore 6, 2) := by decide +kernel
theorem d_Ln_inFirstRow_29 : decode prog_4_method_8_code 29 = .ok (.iload 6, 2) := by decide +kernel
theorem d_Ln_inFirstRow_31 : decode prog_4_method_8_code 31 = .ok (.aload_n 0, 1) := by decide +kernel
theorem d_Ln_inFirstRow_32 : decode prog_4_method_8_code 32 = .ok (.getfield 27, 3) := by decide +kernel
theorem d_Ln_inFirstRow_35 : decode prog_4_method_8_code 35 = .ok (.if_icmp .ge 44, 3) := by decide +kernel
theorem d_Ln_inFirstRow_38 : decode prog_4_method_8_code 38 = .ok (.iload 4, 2) := by decide +kernel
theorem d_Ln_inFirstRow_40 : decode prog_4_method_8_code 40 = .ok (.iconst (-1), 1) := by decide +kernel
theorem d_Ln_inFirstRow_41 : decode prog_4_method_8_code 41 = .ok (.if_icmp .ne 38, 3) := by decide +kernel
theorem d_Ln_inFirstRow_44 : decode prog_4_method_8_code 44 = .ok (.aload_n 0, 1) := by decide +kernel
theorem d_Ln_inFirstRow_45 : decode prog_4_method_8_code 45 = .ok (.aload_n 1, 1) := by decide +kernel
theorem d_Ln_inFirstRow_46 : decode prog_4_method_8_code 46 = .ok (.iload_n 3, 1) := by decide +kernel
theorem d_Ln_inFirstRow_47 : decode prog_4_method_8_code 47 = .ok (.iload 6, 2) := by decide +kernel
theorem d_Ln_inFirstRow_49 : decode prog_4_method_8_code 49 = .ok (.invokevirtual 62, 3) := by decide +kernel
theorem d_Ln_inFirstRow_52 : decode prog_4_method_8_code 52 = .ok (.ifCond .eq 21, 3) := by decide +kernel
theorem d_Ln_inFirstRow_55 : decode prog_4_method_8_code 55 = .ok (.aload_n 0, 1) := by decide +kernel
theorem d_Ln_inFirstRow_56 : decode prog_4_method_8_code 56 = .ok (.getfield 24, 3) := by decide +kernel
theorem d_Ln_inFirstRow_59 : decode prog_4_method_8_code 59 = .ok (.iload_n 3, 1) := by decide +kernel
theorem d_Ln_inFirstRow_60 : decode prog_4_method_8_code 60 = .ok (.iconst 1, 1) := by decide +kernel
theorem d_Ln_inFirstRow_61 : decode prog_4_method_8_code 61 = .ok (.iload 6, 2) := by decide +kernel
theorem d_Ln_inFirstRow_63 : decode prog_4_method_8_code 63 = .ok (.ishl, 1) := by decide +kernel
theorem d_Ln_inFirstRow_64 : decode prog_4_method_8_code 64 = .ok (.ior, 1) := by decide +kernel
theorem d_Ln_inFirstRow_65 : decode prog_4_method_8_code 65 = .ok (.iaload, 1) := by decide +kernel
theorem d_Ln_inFirstRow_66 : decode prog_4_method_8_code 66 = .ok (.ifCond .le 7, 3) := by decide +kernel
theorem d_Ln_inFirstRow_69 : decode prog_4_method_8_code 69 = .ok (.iload 6, 2) := by decide +kernel
theorem d_Ln_inFirstRow_71 : decode prog_4_method_8_code 71 = .ok (.istore 4, 2) := by decide +kernel
theorem d_Ln_inFirstRow_73 : decode prog_4_method_8_code 73 = .ok (.iinc 6 1, 3) := by decide +kernel
theorem d_Ln_inFirstRow_76 : decode prog_4_method_8_code 76 = .ok (.goto (-47), 3) := by decide +kernel
theorem d_Ln_inFirstRow_79 : decode prog_4_method_8_code 79 = .ok (.iload 4, 2) := by decide +kernel
theorem d_Ln_inFirstRow_81 : decode prog_4_method_8_code 81 = .ok (.iconst (-1), 1) := by decide +kernel
theorem d_Ln_inFirstRow_82 : decode prog_4_method_8_code 82 = .ok (.if_icmp .ne 5, 3) := by decide +kernel
theorem d_Ln_inFirstRow_85 : decode prog_4_method_8_code 85 = .ok (.iconst (-1), 1) := by decide +kernel
theorem d_Ln_inFirstRow_86 : decode prog_4_method_8_code 86 = .ok (.ireturn, 1) := by decide +kernel
theorem d_Ln_inFirstRow_87 : decode prog_4_method_8_code 87 = .ok (.iload_n 3, 1) := by decide +kernel
theorem d_Ln_inFirstRow_88 : decode prog_4_method_8_code 88 = .ok (.iconst 1, 1) := by decide +kernel
theorem d_Ln_inFirstRow_89 : decode prog_4_method_8_code 89 = .ok (.iload 4, 2) := by decide +kernel
theorem d_Ln_inFirstRow_91 : decode prog_4_method_8_code 91 = .ok (.ishl, 1) := by decide +kernel
theorem d_Ln_inFirstRow_92 : decode prog_4_method_8_code 92 = .ok (.ior, 1) := by decide +kernel
theorem d_Ln_inFirstRow_93 : decode prog_4_method_8_code 93 = .ok (.istore_n 3, 1) := by decide +kernel
theorem d_Ln_inFirstRow_94 : decode prog_4_method_8_code 94 = .ok (.iinc 5 1, 3) := by decide +kernel
theorem d_Ln_inFirstRow_97 : decode prog_4_method_8_code 97 = .ok (.goto (-89), 3) := by decide +kernel
theorem d_Ln_inFirstRow_100 : decode prog_4_method_8_code 100 = .ok (.iload 4, 2) := by decide +kernel
theorem d_Ln_inFirstRow_102 : decode prog_4_method_8_code 102 = .ok (.iconst (-1), 1) := by decide +kernel
theorem d_Ln_inFirstRow_103 : decode prog_4_method_8_code 103 = .ok (.if_icmp .ne 7, 3) := by decide +kernel
theorem d_Ln_inFirstRow_106 : decode prog_4_method_8_code 106 = .ok (.iconst (-1), 1) := by decide +kernel
theorem d_Ln_inFirstRow_107 : decode prog_4_method_8_code 107 = .ok (.goto 10, 3) := by decide +kernel
theorem d_Ln_inFirstRow_110 : decode prog_4_method_8_code 110 = .ok (.aload_n 0, 1) := by decide +kernel
theorem d_Ln_inFirstRow_111 : decode prog_4_method_8_code 111 = .ok (.getfield 21, 3) := by decide +kernel
theorem d_Ln_inFirstRow_114 : decode prog_4_method_8_code 114 = .ok (.iload 4, 2) := by decide +kernel
theorem d_Ln_inFirstRow_116 : decode prog_4_method_8_code 116 = .ok (.iaload, 1) := by decide +kernel
theorem d_Ln_inFirstRow_117 : decode prog_4_method_8_code 117 = .ok (.ireturn, 1) := by decide +kernel
def w_Ln_inFirstRow {d : Nat} (hd : 3 ≤ d) := (show SS ("DebtDoors$Lendings", prog_4_method_8_code, 7) (some .int) d 0 0 0 0 _ from (sS (p1 := 2) (sIn 3 (xE (rI d_Ln_inFirstRow_0 rfl)) d_Ln_inFirstRow_1 rfl (by decide)) (sS (p1 := 5) (sI (xE (rI d_Ln_inFirstRow_2 rfl)) d_Ln_inFirstRow_3 (by decide)) (sS (p1 := 100) (sS (p1 := 8) (sI (xE (rI d_Ln_inFirstRow_5 rfl)) d_Ln_inFirstRow_6 (by decide)) (sLp (ps := 94) (tt := 23) (pn := 100) (p1 := 0) (p2 := 0) (xC (rAnd (mm := 14) (rNot (rJ2 (tgt := 100) j_gt (rIl d_Ln_inFirstRow_8) (rIn 2 d_Ln_inFirstRow_10 rfl) d_Ln_inFirstRow_11 (by decide))) (rNot (rJ2 (tgt := 100) j_ge (rIl d_Ln_inFirstRow_14) (rF 5 fl_Ln_27 nk_2_5 (rAn 0 d_Ln_inFirstRow_16 rfl) d_Ln_inFirstRow_17 rfl) d_Ln_inFirstRow_20 (by decide))))) (sS (p1 := 26) (sI (xE (rI d_Ln_inFirstRow_23 rfl)) d_Ln_inFirstRow_24 (by decide)) (sS (p1 := 79) (sS (p1 := 29) (sI (xE (rI d_Ln_inFirstRow_26 rfl)) d_Ln_inFirstRow_27 (by decide)) (sLp (ps := 73) (tt := 44) (pn := 79) (p1 := 0) (p2 := 0) (xC (rAnd (mm := 38) (rNot (rJ2 (tgt := 79) j_ge (rIl d_Ln_inFirstRow_29) (rF 5 fl_Ln_27 nk_2_5 (rAn 0 d_Ln_inFirstRow_31 rfl) d_Ln_inFirstRow_32 rfl) d_Ln_inFirstRow_35 (by decide))) (rNot (rJ2 (tgt := 79) j_ne (rIl d_Ln_inFirstRow_38) (rI d_Ln_inFirstRow_40 rfl) d_Ln_inFirstRow_41 (by decide))))) (sIf (pn := 73) (tt := 69) (xC (rAnd (mm := 55) (rNot (rJ1 (tgt := 73) k_eq (rV p_Ln_canCome (Nat.le_trans (Nat.le_of_ble_eq_true rfl) hd) lv_Ln_62 (rAi (rAi (rAr (rAr rA0 (rAn 0 d_Ln_inFirstRow_44 rfl)) (rAn 1 d_Ln_inFirstRow_45 rfl)) (rIn 3 d_Ln_inFirstRow_46 rfl)) (rIl d_Ln_inFirstRow_47)) (by decide) d_Ln_inFirstRow_49) d_Ln_inFirstRow_52 (by decide))) (rNot (rJ1 (tgt := 73) k_le (rIa (rFr fl_Ln_24 nk_2_4 (rAn 0 d_Ln_inFirstRow_55 rfl) d_Ln_inFirstRow_56) (r2 o_or (rIn 3 d_Ln_inFirstRow_59 rfl) (r2 o_shl (rI d_Ln_inFirstRow_60 rfl) (rIl d_Ln_inFirstRow_61) d_Ln_inFirstRow_63) d_Ln_inFirstRow_64) d_Ln_inFirstRow_65) d_Ln_inFirstRow_66 (by decide))))) (sI (xE (rIl d_Ln_inFirstRow_69)) d_Ln_inFirstRow_71 (by decide))) (sGo (pn := 29) (sInc d_Ln_inFirstRow_73 (by decide)) d_Ln_inFirstRow_76 (by decide)))) (sS (p1 := 87) (sIf (pn := 87) (tt := 85) (xC (rNot (rJ2 (tgt := 87) j_ne (rIl d_Ln_inFirstRow_79) (rI d_Ln_inFirstRow_81 rfl) d_Ln_inFirstRow_82 (by decide)))) (sRi (xE (rI d_Ln_inFirstRow_85 rfl)) d_Ln_inFirstRow_86 rfl)) (sIn 3 (xE (r2 o_or (rIn 3 d_Ln_inFirstRow_87 rfl) (r2 o_shl (rI d_Ln_inFirstRow_88 rfl) (rIl d_Ln_inFirstRow_89) d_Ln_inFirstRow_91) d_Ln_inFirstRow_92)) d_Ln_inFirstRow_93 rfl (by decide))))) (sGo (pn := 8) (sInc d_Ln_inFirstRow_94 (by decide)) d_Ln_inFirstRow_97 (by decide)))) (sRi (xE (rT2 (rNot (rJ2 (tgt := 110) j_ne (rIl d_Ln_inFirstRow_100) (rI d_Ln_inFirstRow_102 rfl) d_Ln_inFirstRow_103 (by decide))) (rGoE (p2 := 117) (rI d_Ln_inFirstRow_106 rfl) d_Ln_inFirstRow_107 (by decide)) (rIa (rFr fl_Ln_21 nk_2_3 (rAn 0 d_Ln_inFirstRow_110 rfl) d_Ln_inFirstRow_111) (rIl d_Ln_inFirstRow_114) d_Ln_inFirstRow_116))) d_Ln_inFirstRow_117 rfl)))))
noncomputable def f_Ln_inFirstRow : List zV → zMem → Int
  | [.inr (.inr (.inl q0)), .inr (.inr (.inl q1)), .inl i], μ => μ 332 ((frP (nxM μ) (μ 328 5).toNat (i.toNat + 1)).2)
  | _, _ => 0
def g_Ln_inFirstRow : List zV → zMem → Prop
  | [.inr (.inr (.inl q0)), .inr (.inr (.inl q1)), .inl i], μ => q0 = 328 ∧ q1 = 2 ∧ (okN μ ∧ (0 ≤ i ∧ i < μ 328 5) ∧ ∀ p : Nat, (p : Int) ≤ i → (frP (nxM μ) (μ 328 5).toNat p).1 < 2 ^ (μ 328 5).toNat ∧ 0 ≤ chS (nxM μ) (μ 328 5).toNat (frP (nxM μ) (μ 328 5).toNat p).1 ∧ chS (nxM μ) (μ 328 5).toNat (frP (nxM μ) (μ 328 5).toNat p).1 < μ 328 5 ∧ nxM μ (frP (nxM μ) (μ 328 5).toNat p).1 (chS (nxM μ) (μ 328 5).toNat (frP (nxM μ) (μ 328 5).toNat p).1).toNat)
  | _, _ => False
theorem p_Ln_inFirstRow : zPu y_Ln_inFirstRow 3 f_Ln_inFirstRow g_Ln_inFirstRow := by
  intro as μ h
  unfold g_Ln_inFirstRow at h
  split at h
  · next q0 q1 i =>
    obtain ⟨rfl, rfl, h⟩ := h
    refine zSp.ss [vr 328, vr 2, vi i, vx 0, vx 0, vx 0, vx 0] rfl (w_Ln_inFirstRow (Nat.le_refl _)) rfl rfl ?_
    have h8 := h.1.1
    have hp8 : 2 ^ (μ 328 5).toNat ≤ 2 ^ 8 := Nat.pow_le_pow_right (by decide) (by omega)
    have h256 : (2 : Nat) ^ 8 = 256 := by decide
    (try simp only [zit_e, Bool.and_eq_true, Bool.or_eq_true, Bool.not_eq_true', Bool.and_eq_false_iff, Bool.or_eq_false_iff, Bool.not_eq_false', zbe, zdt, zdf, zb2_p, zbp_0, zbp_1, zbp_inj, zbp_01, Bool.true_eq_false, Bool.false_eq_true, true_and, and_true, Decidable.not_not, Classical.not_not, implies_true, List.nil_append, List.cons_append, List.append_assoc, Option.some.injEq, Sum.inl.injEq, zSw_c, zSw_n]); (try simp only [zit_e, Bool.and_eq_true, Bool.or_eq_true, Bool.not_eq_true', Bool.and_eq_false_iff, Bool.or_eq_false_iff, Bool.not_eq_false', zbe, zdt, zdf, zb2_p, zbp_0, zbp_1, zbp_inj, zbp_01, Bool.true_eq_false, Bool.false_eq_true, true_and, and_true, Decidable.not_not, Classical.not_not, implies_true, List.nil_append, List.cons_append, List.append_assoc, Option.some.injEq, Sum.inl.injEq, zSw_c, zSw_n, f_Ln_inFirstRow, zc_328, zc_2]); (try simp only [zi_cs, zi_c0, zii_cs, zii_c0, zl_cs, zl_c0, zll_cs, zll_c0, zr_cs, zr_c0, zrr_cs, zrr_c0, zxs_cs, zxs_c0, zxx_cs, zxx_c0, zfree_c0, zfree_c1, zfree_cs, zfree_cz, zlong_i, zlong_r, zlong_x, zset_0, zset_s, true_and, and_true, Option.some.injEq, Sum.inl.injEq, Sum.inr.injEq, zb2_p, zbp_0, zbp_1, zbp_inj, zbp_01, Nat.zero_add, Nat.reduceAdd, implies_true, List.nil_append, List.cons_append, List.append_assoc, Int.not_lt, Int.not_le, Decidable.not_not, Int.zero_add, Int.reduceLE, Int.reduceLT, Int.reduceEq, Int.reduceNe, Int.reduceAdd, Int.reduceSub, Int.reduceMul, Int.reduceNeg, Int.reduceToNat, Nat.reduceMul, Nat.reduceLT, Nat.reduceEqDiff, and_self, ite_true, ite_false, zx1, zx2, zRecv, List.length_cons, List.length_nil, ne_eq, not_true_eq_false, not_false_eq_true, true_or, or_true, or_false, false_or, and_false, false_and, zf01, zf10, reduceCtorEq, zSw_c, zSw_n, zm_r, zit_T, zit_F, false_implies, true_implies, f_Ln_inFirstRow, zc_328, zc_2])
    generalize hn : (μ 328 5).toNat = n at *
    generalize hP : nxM μ = P at *
    refine zLoop.up (i.toNat + 1) (fun p ρ μ1 => ∃ x6 : zV, ρ = [vr 328, vr 2, vi i, vi ((frP P n p).1 : Int), vi (frP P n p).2, vi p, x6] ∧ μ = μ1) ⟨_, rfl, rfl⟩ ?_
    rintro p ρ μ1 hp ⟨x6, rfl, rfl⟩
    (try simp only [zit_e, Bool.and_eq_true, Bool.or_eq_true, Bool.not_eq_true', Bool.and_eq_false_iff, Bool.or_eq_false_iff, Bool.not_eq_false', zbe, zdt, zdf, zb2_p, zbp_0, zbp_1, zbp_inj, zbp_01, Bool.true_eq_false, Bool.false_eq_true, true_and, and_true, Decidable.not_not, Classical.not_not, implies_true, List.nil_append, List.cons_append, List.append_assoc, Option.some.injEq, Sum.inl.injEq, zSw_c, zSw_n]); (try simp only [zit_e, Bool.and_eq_true, Bool.or_eq_true, Bool.not_eq_true', Bool.and_eq_false_iff, Bool.or_eq_false_iff, Bool.not_eq_false', zbe, zdt, zdf, zb2_p, zbp_0, zbp_1, zbp_inj, zbp_01, Bool.true_eq_false, Bool.false_eq_true, true_and, and_true, Decidable.not_not, Classical.not_not, implies_true, List.nil_append, List.cons_append, List.append_assoc, Option.some.injEq, Sum.inl.injEq, zSw_c, zSw_n, f_Ln_inFirstRow, zc_328, zc_2]); (try simp only [zi_cs, zi_c0, zii_cs, zii_c0, zl_cs, zl_c0, zll_cs, zll_c0, zr_cs, zr_c0, zrr_cs, zrr_c0, zxs_cs, zxs_c0, zxx_cs, zxx_c0, zfree_c0, zfree_c1, zfree_cs, zfree_cz, zlong_i, zlong_r, zlong_x, zset_0, zset_s, true_and, and_true, Option.some.injEq, Sum.inl.injEq, Sum.inr.injEq, zb2_p, zbp_0, zbp_1, zbp_inj, zbp_01, Nat.zero_add, Nat.reduceAdd, implies_true, List.nil_append, List.cons_append, List.append_assoc, Int.not_lt, Int.not_le, Decidable.not_not, Int.zero_add, Int.reduceLE, Int.reduceLT, Int.reduceEq, Int.reduceNe, Int.reduceAdd, Int.reduceSub, Int.reduceMul, Int.reduceNeg, Int.reduceToNat, Nat.reduceMul, Nat.reduceLT, Nat.reduceEqDiff, and_self, ite_true, ite_false, zx1, zx2, zRecv, List.length_cons, List.length_nil, ne_eq, not_true_eq_false, not_false_eq_true, true_or, or_true, or_false, false_or, and_false, false_and, zf01, zf10, reduceCtorEq, zSw_c, zSw_n, zm_r, zit_T, zit_F, false_implies, true_implies, f_Ln_inFirstRow, zc_328, zc_2])
    refine zif (fun c => ?_) (fun c => ?_)
    · obtain ⟨g1, g2, g3, g4⟩ := h.2.2 p (by omega)
      have eb : (frP P n (p + 1)).1 = (frP P n p).1 + 2 ^ (chS P n (frP P n p).1).toNat := rfl
      have ec : (frP P n (p + 1)).2 = chS P n (frP P n p).1 := rfl
      generalize (frP P n p).1 = b at *
      refine zLoop.up n (fun k ρ μ1 => ∃ ch : Int, ρ = [vr 328, vr 2, vi i, vi (b : Int), vi ch, vi p, vi k] ∧ μ = μ1 ∧ ((ch = -1 ∧ chS P n b = fstN (fun k => P b k.toNat) (n - k) k) ∨ (ch = chS P n b ∧ 0 ≤ ch))) ⟨-1, rfl, rfl, Or.inl ⟨rfl, rfl⟩⟩ ?_
      rintro k ρ μ1 hk ⟨ch, rfl, rfl, hch⟩
      (try simp only [zit_e, Bool.and_eq_true, Bool.or_eq_true, Bool.not_eq_true', Bool.and_eq_false_iff, Bool.or_eq_false_iff, Bool.not_eq_false', zbe, zdt, zdf, zb2_p, zbp_0, zbp_1, zbp_inj, zbp_01, Bool.true_eq_false, Bool.false_eq_true, true_and, and_true, Decidable.not_not, Classical.not_not, implies_true, List.nil_append, List.cons_append, List.append_assoc, Option.some.injEq, Sum.inl.injEq, zSw_c, zSw_n]); (try simp only [zit_e, Bool.and_eq_true, Bool.or_eq_true, Bool.not_eq_true', Bool.and_eq_false_iff, Bool.or_eq_false_iff, Bool.not_eq_false', zbe, zdt, zdf, zb2_p, zbp_0, zbp_1, zbp_inj, zbp_01, Bool.true_eq_false, Bool.false_eq_true, true_and, and_true, Decidable.not_not, Classical.not_not, implies_true, List.nil_append, List.cons_append, List.append_assoc, Option.some.injEq, Sum.inl.injEq, zSw_c, zSw_n, f_Ln_inFirstRow, zc_328, zc_2, f_Ln_canCome, g_Ln_canCome]); (try simp only [zi_cs, zi_c0, zii_cs, zii_c0, zl_cs, zl_c0, zll_cs, zll_c0, zr_cs, zr_c0, zrr_cs, zrr_c0, zxs_cs, zxs_c0, zxx_cs, zxx_c0, zfree_c0, zfree_c1, zfree_cs, zfree_cz, zlong_i, zlong_r, zlong_x, zset_0, zset_s, true_and, and_true, Option.some.injEq, Sum.inl.injEq, Sum.inr.injEq, zb2_p, zbp_0, zbp_1, zbp_inj, zbp_01, Nat.zero_add, Nat.reduceAdd, implies_true, List.nil_append, List.cons_append, List.append_assoc, Int.not_lt, Int.not_le, Decidable.not_not, Int.zero_add, Int.reduceLE, Int.reduceLT, Int.reduceEq, Int.reduceNe, Int.reduceAdd, Int.reduceSub, Int.reduceMul, Int.reduceNeg, Int.reduceToNat, Nat.reduceMul, Nat.reduceLT, Nat.reduceEqDiff, and_self, ite_true, ite_false, zx1, zx2, zRecv, List.length_cons, List.length_nil, ne_eq, not_true_eq_false, not_false_eq_true, true_or, or_true, or_false, false_or, and_false, false_and, zf01, zf10, reduceCtorEq, zSw_c, zSw_n, zm_r, zit_T, zit_F, false_implies, true_implies, f_Ln_inFirstRow, zc_328, zc_2, f_Ln_canCome, g_Ln_canCome])
      refine zif (fun c1 => ?_) (fun c1 => ?_)
      · rcases hch with ⟨q1, q2⟩ | ⟨q1, q2⟩
        · rw [fstN_s (by omega)] at q2
          have hPk : P b k ↔ lcM μ b k ∧ 0 < μ 333 ((b + 2 ^ k : Nat) : Int) := by rw [← hP]; exact Iff.rfl
          rw [Int.toNat_natCast] at q2
          have hcc : lcM μ b k → zor (b : Int) (zshl 1 (k : Int)) = ((b + 2 ^ k : Nat) : Int) ∧ b + 2 ^ k < 256 := fun q => by
            have hz := zor_set (c := b) (i := k) (by omega) (by omega) q.1
            exact ⟨hz.1, hz.2.2⟩
          refine ⟨⟨⟨h.1, by omega, by omega⟩, fun q => ?_⟩, ?_⟩
          · have := hcc q
            rw [this.1]
            exact ⟨Int.natCast_nonneg _, (Int.ofNat_lt.mpr this.2 : ((b + 2 ^ k : Nat) : Int) < ((256 : Nat) : Int))⟩
          have hz4 : zptr 328 4 = 333 := zc_328.1.2.2.2.2.2.1
          refine zif (fun c2 => ?_) (fun c2 => ?_)
          all_goals rw [zbp_0, hz4, Classical.not_not] at c2
          · have h3 := hcc c2.1
            rw [h3.1] at c2
            rw [zit_t (hPk.mpr c2)] at q2
            exact ⟨zI_s (by omega) (by omega), n - (k + 1), by omega, k + 1, rfl, by omega, k, rfl, Or.inr ⟨q2.symm, by omega⟩⟩
          · have hnP : ¬ P b k := fun q => by
              have q1 := hPk.mp q
              have h4 := hcc q1.1
              rw [h4.1] at c2
              exact c2 q1
            rw [zit_f hnP] at q2
            exact ⟨zI_s (by omega) (by omega), n - (k + 1), by omega, k + 1, rfl, by omega, ch, rfl, Or.inl ⟨q1, q2⟩⟩
        · omega
      · have hce : ch = chS P n b := by
          rcases hch with ⟨q1, q2⟩ | ⟨q1, q2⟩
          · have : k = n := by omega
            rw [this, Nat.sub_self, fstN] at q2
            omega
          · exact q1
        subst hce
        rw [if_neg (by omega)]
        obtain ⟨c3, hc3⟩ : ∃ c3 : Nat, chS P n b = c3 := ⟨_, (Int.toNat_of_nonneg g2).symm⟩
        rw [hc3, Int.toNat_natCast] at g4 eb
        have g5 : lcM μ b c3 := by rw [← hP] at g4; exact g4.1
        have hz := zor_set (c := b) (i := c3) (by omega) (by omega) g5.1
        refine ⟨zI_s (by omega) (by omega), i.toNat + 1 - (p + 1), by omega, p + 1, rfl, by omega, vi k, ?_⟩
        rw [eb, ec, hc3, hz.1]
        rfl
    · have ep : p = i.toNat + 1 := by omega
      subst ep
      obtain ⟨g1, g2, g3, g4⟩ := h.2.2 i.toNat (by omega)
      have ec : (frP P n (i.toNat + 1)).2 = chS P n (frP P n i.toNat).1 := rfl
      rw [ec]
      refine ⟨fun _ => by omega, zit_f (by omega)⟩
  · exact h.elim

