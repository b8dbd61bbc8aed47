/-! rings: told -/
theorem CP_p {E : Nat → Nat → Prop} {n : Nat} (q : Nat) : (fun l => (∃ p0, p0 < q ∧ StR E n p0 p0 (2 ^ p0) [p0] l ∧ p0 < n) ∨ (StR E n q q (2 ^ q) [q] l ∧ q < n)) = (fun l => ∃ p0, p0 < q + 1 ∧ StR E n p0 p0 (2 ^ p0) [p0] l ∧ p0 < n) := funext (fun l => propext ⟨fun h => by
  rcases h with ⟨p0, a, b⟩ | h
  · exact ⟨p0, by omega, b⟩
  · exact ⟨q, by omega, h⟩, fun ⟨p0, a, b⟩ => by
  by_cases e : p0 = q
  · subst e
    exact Or.inr b
  · exact Or.inl ⟨p0, by omega, b⟩⟩)
def y_M_findsRing : zMt := (⟨"DebtDoorsModel", "findsRing", "()V"⟩, prog_14_method_121_code, 2, none)
theorem d_M_findsRing_0 : decode prog_14_method_121_code 0 = .ok (.aload_n 0, 1) := by decide +kernel
theorem d_M_findsRing_1 : decode prog_14_method_121_code 1 = .ok (.iconst 0, 1) := by decide +kernel
theorem d_M_findsRing_2 : decode prog_14_method_121_code 2 = .ok (.putfield 446, 3) := by decide +kernel
theorem d_M_findsRing_5 : decode prog_14_method_121_code 5 = .ok (.iconst 0, 1) := by decide +kernel
theorem d_M_findsRing_6 : decode prog_14_method_121_code 6 = .ok (.istore_n 1, 1) := by decide +kernel
theorem d_M_findsRing_7 : decode prog_14_method_121_code 7 = .ok (.iload_n 1, 1) := by decide +kernel
theorem d_M_findsRing_8 : decode prog_14_method_121_code 8 = .ok (.aload_n 0, 1) := by decide +kernel
theorem d_M_findsRing_9 : decode prog_14_method_121_code 9 = .ok (.invokevirtual 133, 3) := by decide +kernel
theorem d_M_findsRing_12 : decode prog_14_method_121_code 12 = .ok (.if_icmp .ge 24, 3) := by decide +kernel
theorem d_M_findsRing_15 : decode prog_14_method_121_code 15 = .ok (.aload_n 0, 1) := by decide +kernel
theorem d_M_findsRing_16 : decode prog_14_method_121_code 16 = .ok (.getfield 95, 3) := by decide +kernel
theorem d_M_findsRing_19 : decode prog_14_method_121_code 19 = .ok (.iconst 0, 1) := by decide +kernel
theorem d_M_findsRing_20 : decode prog_14_method_121_code 20 = .ok (.iload_n 1, 1) := by decide +kernel
theorem d_M_findsRing_21 : decode prog_14_method_121_code 21 = .ok (.iastore, 1) := by decide +kernel
theorem d_M_findsRing_22 : decode prog_14_method_121_code 22 = .ok (.aload_n 0, 1) := by decide +kernel
theorem d_M_findsRing_23 : decode prog_14_method_121_code 23 = .ok (.iconst 1, 1) := by decide +kernel
theorem d_M_findsRing_24 : decode prog_14_method_121_code 24 = .ok (.iconst 1, 1) := by decide +kernel
theorem d_M_findsRing_25 : decode prog_14_method_121_code 25 = .ok (.iload_n 1, 1) := by decide +kernel
theorem d_M_findsRing_26 : decode prog_14_method_121_code 26 = .ok (.ishl, 1) := by decide +kernel
theorem d_M_findsRing_27 : decode prog_14_method_121_code 27 = .ok (.invokevirtual 452, 3) := by decide +kernel
theorem d_M_findsRing_30 : decode prog_14_method_121_code 30 = .ok (.iinc 1 1, 3) := by decide +kernel
theorem d_M_findsRing_33 : decode prog_14_method_121_code 33 = .ok (.goto (-26), 3) := by decide +kernel
theorem d_M_findsRing_36 : decode prog_14_method_121_code 36 = .ok (.return_, 1) := by decide +kernel
def w_M_findsRing {d : Nat} (hd : 2 ≤ d) := (show SS ("DebtDoorsModel", prog_14_method_121_code, 2) (none) d 0 0 0 0 _ from (sS (p1 := 5) (sP 43 fl_M_446 fp_12_43 nk_12_43 (rAn 0 d_M_findsRing_0 rfl) (xE (rI d_M_findsRing_1 rfl)) d_M_findsRing_2 rfl) (sS (p1 := 36) (sS (p1 := 7) (sIn 1 (xE (rI d_M_findsRing_5 rfl)) d_M_findsRing_6 rfl (by decide)) (sLp (ps := 30) (tt := 15) (pn := 36) (p1 := 0) (p2 := 0) (xC (rNot (rJ2 (tgt := 36) j_ge (rIn 1 d_M_findsRing_7 rfl) (rV p_M_people (Nat.le_trans (Nat.le_of_ble_eq_true rfl) hd) lv_M_133 (rAr rA0 (rAn 0 d_M_findsRing_8 rfl)) (by decide) d_M_findsRing_9) d_M_findsRing_12 (by decide)))) (sS (p1 := 22) (sAs (rFr fl_M_95 nk_12_41 (rAn 0 d_M_findsRing_15 rfl) d_M_findsRing_16) (rI d_M_findsRing_19 rfl) (xE (rIn 1 d_M_findsRing_20 rfl)) d_M_findsRing_21) (sV (xVv lv_M_452 (xA (rAi (rAi (rAr rA0 (rAn 0 d_M_findsRing_22 rfl)) (rI d_M_findsRing_23 rfl)) (r2 o_shl (rI d_M_findsRing_24 rfl) (rIn 1 d_M_findsRing_25 rfl) d_M_findsRing_26))) (by decide) d_M_findsRing_27))) (sGo (pn := 7) (sInc d_M_findsRing_30 (by decide)) d_M_findsRing_33 (by decide)))) (sRv d_M_findsRing_36 rfl))))
theorem q_M_findsRing {d : Nat} (hd : 13 ≤ d) {μ : zMem} {Z : Zt} {F : Option (List Cls)} {A : Lg} {w : Int → Int} (hC : MTx μ Z F A w) : zSp d 0 0 y_M_findsRing zT0 [vr 355] μ zT0 (fun q μ' => q = none ∧ RFr μ μ' ∧ ∃ B, LR (eA A) Z.1.toNat B ∧ RgM B μ') := by
  have hn := hC.1.1
  generalize hnn : Z.1.toNat = n
  refine zSp.ss [vr 355, vx 0] rfl (w_M_findsRing (Nat.le_trans (by decide) hd)) rfl rfl ?_
  (try simp only [zit_e, Bool.and_eq_true, Bool.or_eq_true, Bool.not_eq_true', Bool.and_eq_false_iff, Bool.or_eq_false_iff, Bool.not_eq_false', zbe, zdt, zdf, zb2_p, zbp_0, zbp_1, zbp_inj, zbp_01, Bool.true_eq_false, Bool.false_eq_true, true_and, and_true, Decidable.not_not, Classical.not_not, implies_true, List.nil_append, List.cons_append, List.append_assoc, Option.some.injEq, Sum.inl.injEq, zSw_c, zSw_n]); (try simp only [zit_e, Bool.and_eq_true, Bool.or_eq_true, Bool.not_eq_true', Bool.and_eq_false_iff, Bool.or_eq_false_iff, Bool.not_eq_false', zbe, zdt, zdf, zb2_p, zbp_0, zbp_1, zbp_inj, zbp_01, Bool.true_eq_false, Bool.false_eq_true, true_and, and_true, Decidable.not_not, Classical.not_not, implies_true, List.nil_append, List.cons_append, List.append_assoc, Option.some.injEq, Sum.inl.injEq, zSw_c, zSw_n, zc_355]); (try simp only [zi_cs, zi_c0, zii_cs, zii_c0, zl_cs, zl_c0, zll_cs, zll_c0, zr_cs, zr_c0, zrr_cs, zrr_c0, zxs_cs, zxs_c0, zxx_cs, zxx_c0, zfree_c0, zfree_c1, zfree_cs, zfree_cz, zlong_i, zlong_r, zlong_x, zset_0, zset_s, true_and, and_true, Option.some.injEq, Sum.inl.injEq, Sum.inr.injEq, zb2_p, zbp_0, zbp_1, zbp_inj, zbp_01, Nat.zero_add, Nat.reduceAdd, implies_true, List.nil_append, List.cons_append, List.append_assoc, Int.not_lt, Int.not_le, Decidable.not_not, Int.zero_add, Int.reduceLE, Int.reduceLT, Int.reduceEq, Int.reduceNe, Int.reduceAdd, Int.reduceSub, Int.reduceMul, Int.reduceNeg, Int.reduceToNat, Nat.reduceMul, Nat.reduceLT, Nat.reduceEqDiff, and_self, ite_true, ite_false, zx1, zx2, zRecv, List.length_cons, List.length_nil, ne_eq, not_true_eq_false, not_false_eq_true, true_or, or_true, or_false, false_or, and_false, false_and, zf01, zf10, reduceCtorEq, zSw_c, zSw_n, zm_r, zit_T, zit_F, false_implies, true_implies, zc_355])
  refine zLoop.up n (fun j ρ μ1 => ρ = [vr 355, vi j] ∧ RFr μ μ1 ∧ ∃ B, RgM B μ1 ∧ TrP (fun l => ∃ p0, p0 < j ∧ StR (eA A) n p0 p0 (2 ^ p0) [p0] l ∧ p0 < n) none B) ⟨rfl, ⟨zfc.rf.zm (by decide), fun i q1 _ => zm_o (Or.inr q1)⟩, none, zm_s, TrP.nil (fun l ⟨p0, h, _⟩ => absurd h (Nat.not_lt_zero _))⟩ ?_
  rintro j ρ μ1 hj ⟨rfl, hF, B, hB, hT⟩
  have h1 : MTx μ1 Z F A w := hC.k (hF.1 357 (by decide))
  have e6 := h1.2.2.1.1
  (try simp only [zit_e, Bool.and_eq_true, Bool.or_eq_true, Bool.not_eq_true', Bool.and_eq_false_iff, Bool.or_eq_false_iff, Bool.not_eq_false', zbe, zdt, zdf, zb2_p, zbp_0, zbp_1, zbp_inj, zbp_01, Bool.true_eq_false, Bool.false_eq_true, true_and, and_true, Decidable.not_not, Classical.not_not, implies_true, List.nil_append, List.cons_append, List.append_assoc, Option.some.injEq, Sum.inl.injEq, zSw_c, zSw_n]); (try simp only [zit_e, Bool.and_eq_true, Bool.or_eq_true, Bool.not_eq_true', Bool.and_eq_false_iff, Bool.or_eq_false_iff, Bool.not_eq_false', zbe, zdt, zdf, zb2_p, zbp_0, zbp_1, zbp_inj, zbp_01, Bool.true_eq_false, Bool.false_eq_true, true_and, and_true, Decidable.not_not, Classical.not_not, implies_true, List.nil_append, List.cons_append, List.append_assoc, Option.some.injEq, Sum.inl.injEq, zSw_c, zSw_n, zc_355, f_M_people, g_M_people]); (try simp only [zi_cs, zi_c0, zii_cs, zii_c0, zl_cs, zl_c0, zll_cs, zll_c0, zr_cs, zr_c0, zrr_cs, zrr_c0, zxs_cs, zxs_c0, zxx_cs, zxx_c0, zfree_c0, zfree_c1, zfree_cs, zfree_cz, zlong_i, zlong_r, zlong_x, zset_0, zset_s, true_and, and_true, Option.some.injEq, Sum.inl.injEq, Sum.inr.injEq, zb2_p, zbp_0, zbp_1, zbp_inj, zbp_01, Nat.zero_add, Nat.reduceAdd, implies_true, List.nil_append, List.cons_append, List.append_assoc, Int.not_lt, Int.not_le, Decidable.not_not, Int.zero_add, Int.reduceLE, Int.reduceLT, Int.reduceEq, Int.reduceNe, Int.reduceAdd, Int.reduceSub, Int.reduceMul, Int.reduceNeg, Int.reduceToNat, Nat.reduceMul, Nat.reduceLT, Nat.reduceEqDiff, and_self, ite_true, ite_false, zx1, zx2, zRecv, List.length_cons, List.length_nil, ne_eq, not_true_eq_false, not_false_eq_true, true_or, or_true, or_false, false_or, and_false, false_and, zf01, zf10, reduceCtorEq, zSw_c, zSw_n, zm_r, zit_T, zit_F, false_implies, true_implies, zc_355, f_M_people, g_M_people])
  rw [e6]
  refine zif (fun c => ?_) (fun c => ?_)
  · have hj7 : j < 7 := by omega
    have hjp : 2 ^ j ≤ 2 ^ 6 := Nat.pow_le_pow_right (by decide) (by omega)
    have h26 : (2 : Nat) ^ 6 = 64 := by decide
    have hpc : pcN 8 (2 ^ j) = 1 := by
      have := (bit8 (c := 0) (i := j) (by decide) (by omega) (Nat.zero_testBit _)).2.1
      rw [Nat.zero_add] at this
      exact this
    rw [zshl_n (by omega)]
    have := q_M_triesRing (F := F) (A := A) (w := w) hnn (show j < n by omega) 6 (d := 11) (Nat.le_refl _) (μ := zm μ1 379 0 (j : Int)) (last := j) (used := 2 ^ j) (r := [j]) (B := B) (h1.k (by rw [zm_off _ (by decide)])) rfl (by simp) (by show 2 ^ j = 2 ^ j + 0; omega) (by omega) hpc rfl rfl hj7 (fun i hi => by
      have : i = 0 := by simpa using hi
      subst this
      exact zm_s) (hB.k (by (repeat rw [zm_o (by omega)])) (by (repeat rw [zm_o (by omega)])) (by rw [zm_off _ (by decide)]))
    refine zCw.use this (by omega) (fun q μ2 e => ?_)
    obtain ⟨rfl, f1, f2, B2, f3, f4⟩ := e
    have hF2 : RFr μ μ2 := (hF.tr ⟨zfc.rf.zm (by decide), fun i _ _ => by (repeat rw [zm_o (by omega)])⟩).tr f1
    refine ⟨rfl, zI_s (by omega) (by omega), n - (j + 1), by omega, j + 1, rfl, by omega, rfl, hF2, B2, f3, ?_⟩
    rw [← CP_p]
    refine hT.tr (f4.co (fun l => ⟨fun q => ⟨q, by omega⟩, fun q => q.1⟩)) ?_
    rintro l1 l2 ⟨p0, g1, ⟨x, rfl, _, _⟩, _⟩ ⟨⟨y, rfl, _, _⟩, _⟩ _
    exact Or.inl g1
  · have ej : j = n := by omega
    subst ej
    refine ⟨hF, B, (hT.co (fun l => ?_)).lr, hB⟩
    constructor
    · rintro ⟨p0, g1, ⟨x, rfl, g2, g3⟩, g4⟩
      refine ⟨p0, x, rfl, fun q => ?_, g4, g2⟩
      subst q
      simp at g3
    · rintro ⟨p0, x, rfl, g1, g2, g3⟩
      refine ⟨p0, g2, ⟨x, rfl, g3, ?_⟩, g2⟩
      have := List.length_pos_iff.mpr g1
      rw [List.length_cons]
      omega
noncomputable def rgA (Z : Zt) (A : Lg) : Option (List Nat) := Classical.epsilon (fun B => LR (eA A) Z.1.toNat B)
theorem rgA_e {Z : Zt} {A : Lg} {B : Option (List Nat)} (hZ : okZ Z) (h : LR (eA A) Z.1.toNat B) : rgA Z A = B ∧ LR (eA A) Z.1.toNat (rgA Z A) := by
  have hn := hZ.1
  have : LR (eA A) Z.1.toNat (rgA Z A) := Classical.epsilon_spec (p := fun B => LR (eA A) Z.1.toNat B) ⟨B, h⟩
  exact ⟨LR_u (by omega) this h, this⟩
def rgV (B : Option (List Nat)) (i : Int) : Int := match B with
  | none => -1
  | some l => if i = -1 then (l.length : Int) else if 0 ≤ i ∧ i < (l.length : Int) then ((l.getD i.toNat 0 : Nat) : Int) else -1
theorem LR_l {E : Nat → Nat → Prop} {n : Nat} {l : List Nat} (hn : n ≤ 7) (h : LR E n (some l)) : 2 ≤ l.length ∧ l.length ≤ 7 := by
  have h1 := CP_b hn h.1
  have h2 := pc_le (n := 7) (c := rgB l) (by decide) (show rgB l < 2 ^ 7 from h1.1)
  omega
theorem q_C_seek {d : Nat} (hd : 12 ≤ d) {μ : zMem} {Z : Zt} {F : Option (List Cls)} {A : Lg} {w : Int → Int} (h : CTx μ Z F A w) : zSp d 0 0 y_Cl_seek zT0 [vr 346, vr 1] μ zT0 (fun q μ' => q = none ∧ zfc [346, 347, 350] μ μ' ∧ LR (eA A) Z.1.toNat (rgA Z A) ∧ RgC (rgA Z A) μ') := (q_Cl_seek hd h).imp (fun q μ' e => by
  obtain ⟨rfl, e1, B, e2, e3⟩ := e
  have := rgA_e h.1 e2
  rw [← this.1] at e3
  exact ⟨rfl, e1, this.2, e3⟩)
theorem q_R_findsRing {d : Nat} (hd : 13 ≤ d) {μ : zMem} {Z : Zt} {F : Option (List Cls)} {A : Lg} {w : Int → Int} (h : MTx μ Z F A w) : zSp d 0 0 y_M_findsRing zT0 [vr 355] μ zT0 (fun q μ' => q = none ∧ RFr μ μ' ∧ LR (eA A) Z.1.toNat (rgA Z A) ∧ RgM (rgA Z A) μ') := (q_M_findsRing hd h).imp (fun q μ' e => by
  obtain ⟨rfl, e1, B, e2, e3⟩ := e
  have := rgA_e h.1 e2
  rw [← this.1] at e3
  exact ⟨rfl, e1, this.2, e3⟩)
theorem RFr.km {a b : zMem} (h : RFr a b) : KM a b := h.1.km (by simp [scM]) (fun j hj => by unfold kfM at hj; exact h.2 j (by omega) (by omega))
theorem m_Cl_seek : Cond.instanceMethod y_Cl_seek.1 ∈ zTb ∧ Cond.selects y_Cl_seek.1.cls y_Cl_seek.1 y_Cl_seek.1 ∈ zTb ∧ Cond.initialized y_Cl_seek.1.cls ∈ zTb ∧ Cond.code y_Cl_seek.1 y_Cl_seek.2.1 y_Cl_seek.2.2.1 y_Cl_seek.2.2.2 ∈ zTb ∧ (y_Cl_seek.1.cls ≠ "java/lang/invoke/MethodHandle" ∧ y_Cl_seek.1.cls ≠ "java/lang/invoke/VarHandle" ∧ (parseMethodDescriptor y_Cl_seek.1.desc).map (fun d => d.parameters.length) = some 1) ∧ y_Cl_seek.2.2.1 ≤ 20 :=
  ⟨(zTb_in 1037 (by decide +kernel) (by decide +kernel)), (zTb_in 1038 (by decide +kernel) (by decide +kernel)), (zTb_in 149 (by decide +kernel) (by decide +kernel)), (zTb_in 1039 (by decide +kernel) (by decide +kernel)), by decide +kernel, by decide +kernel⟩
theorem lv_D_307 : zLv "DebtDoors" 307 y_Cl_seek 1 0 := ⟨⟨(zTb_in 1036 (by decide +kernel) (by decide +kernel)), m_Cl_seek.1, m_Cl_seek.2.1, m_Cl_seek.2.2⟩, _, rfl, rfl⟩
theorem fl_D_311 : zFl "DebtDoors" 311 0 4 := ⟨_, rfl, by decide, (zTb_in 505 (by decide +kernel) (by decide +kernel)), rfl⟩
theorem fl_D_382 : zFl "DebtDoors" 382 0 3 := ⟨_, rfl, by decide, (zTb_in 503 (by decide +kernel) (by decide +kernel)), rfl⟩
def y_D_ring : zMt := (⟨"DebtDoors", "ring", "(I)I"⟩, prog_1_method_50_code, 2, some .int)
theorem d_D_ring_0 : decode prog_1_method_50_code 0 = .ok (.aload_n 0, 1) := by decide +kernel
theorem d_D_ring_1 : decode prog_1_method_50_code 1 = .ok (.getfield 79, 3) := by decide +kernel
theorem d_D_ring_4 : decode prog_1_method_50_code 4 = .ok (.aload_n 0, 1) := by decide +kernel
theorem d_D_ring_5 : decode prog_1_method_50_code 5 = .ok (.getfield 12, 3) := by decide +kernel
theorem d_D_ring_8 : decode prog_1_method_50_code 8 = .ok (.invokevirtual 307, 3) := by decide +kernel
theorem d_D_ring_11 : decode prog_1_method_50_code 11 = .ok (.aload_n 0, 1) := by decide +kernel
theorem d_D_ring_12 : decode prog_1_method_50_code 12 = .ok (.getfield 79, 3) := by decide +kernel
theorem d_D_ring_15 : decode prog_1_method_50_code 15 = .ok (.getfield 311, 3) := by decide +kernel
theorem d_D_ring_18 : decode prog_1_method_50_code 18 = .ok (.ifCond .ne 5, 3) := by decide +kernel
theorem d_D_ring_21 : decode prog_1_method_50_code 21 = .ok (.iconst (-1), 1) := by decide +kernel
theorem d_D_ring_22 : decode prog_1_method_50_code 22 = .ok (.ireturn, 1) := by decide +kernel
theorem d_D_ring_23 : decode prog_1_method_50_code 23 = .ok (.iload_n 1, 1) := by decide +kernel
theorem d_D_ring_24 : decode prog_1_method_50_code 24 = .ok (.iconst (-1), 1) := by decide +kernel
theorem d_D_ring_25 : decode prog_1_method_50_code 25 = .ok (.if_icmp .ne 11, 3) := by decide +kernel
theorem d_D_ring_28 : decode prog_1_method_50_code 28 = .ok (.aload_n 0, 1) := by decide +kernel
theorem d_D_ring_29 : decode prog_1_method_50_code 29 = .ok (.getfield 79, 3) := by decide +kernel
theorem d_D_ring_32 : decode prog_1_method_50_code 32 = .ok (.getfield 311, 3) := by decide +kernel
theorem d_D_ring_35 : decode prog_1_method_50_code 35 = .ok (.ireturn, 1) := by decide +kernel
theorem d_D_ring_36 : decode prog_1_method_50_code 36 = .ok (.iload_n 1, 1) := by decide +kernel
theorem d_D_ring_37 : decode prog_1_method_50_code 37 = .ok (.iconst 0, 1) := by decide +kernel
theorem d_D_ring_38 : decode prog_1_method_50_code 38 = .ok (.aload_n 0, 1) := by decide +kernel
theorem d_D_ring_39 : decode prog_1_method_50_code 39 = .ok (.getfield 79, 3) := by decide +kernel
theorem d_D_ring_42 : decode prog_1_method_50_code 42 = .ok (.getfield 311, 3) := by decide +kernel
theorem d_D_ring_45 : decode prog_1_method_50_code 45 = .ok (.iconst 1, 1) := by decide +kernel
theorem d_D_ring_46 : decode prog_1_method_50_code 46 = .ok (.isub, 1) := by decide +kernel
theorem d_D_ring_47 : decode prog_1_method_50_code 47 = .ok (.invokestatic 104, 3) := by decide +kernel
theorem d_D_ring_50 : decode prog_1_method_50_code 50 = .ok (.ifCond .eq 15, 3) := by decide +kernel
theorem d_D_ring_53 : decode prog_1_method_50_code 53 = .ok (.aload_n 0, 1) := by decide +kernel
theorem d_D_ring_54 : decode prog_1_method_50_code 54 = .ok (.getfield 79, 3) := by decide +kernel
theorem d_D_ring_57 : decode prog_1_method_50_code 57 = .ok (.getfield 382, 3) := by decide +kernel
theorem d_D_ring_60 : decode prog_1_method_50_code 60 = .ok (.iload_n 1, 1) := by decide +kernel
theorem d_D_ring_61 : decode prog_1_method_50_code 61 = .ok (.iaload, 1) := by decide +kernel
theorem d_D_ring_62 : decode prog_1_method_50_code 62 = .ok (.goto 4, 3) := by decide +kernel
theorem d_D_ring_65 : decode prog_1_method_50_code 65 = .ok (.iconst (-1), 1) := by decide +kernel
theorem d_D_ring_66 : decode prog_1_method_50_code 66 = .ok (.ireturn, 1) := by decide +kernel
def w_D_ring {d : Nat} (hd : 2 ≤ d) := (show SS ("DebtDoors", prog_1_method_50_code, 2) (some .int) d 0 0 0 0 _ from (sS (p1 := 11) (sV (xVv lv_D_307 (xA (rAr (rAr rA0 (rFr fl_D_79 nk_11_11 (rAn 0 d_D_ring_0 rfl) d_D_ring_1)) (rFr fl_D_12 nk_11_0 (rAn 0 d_D_ring_4 rfl) d_D_ring_5))) (by decide) d_D_ring_8)) (sS (p1 := 23) (sIf (pn := 23) (tt := 21) (xC (rNot (rJ1 (tgt := 23) k_ne (rF 4 fl_D_311 nk_0_4 (rFr fl_D_79 nk_11_11 (rAn 0 d_D_ring_11 rfl) d_D_ring_12) d_D_ring_15 rfl) d_D_ring_18 (by decide)))) (sRi (xE (rI d_D_ring_21 rfl)) d_D_ring_22 rfl)) (sS (p1 := 36) (sIf (pn := 36) (tt := 28) (xC (rNot (rJ2 (tgt := 36) j_ne (rIn 1 d_D_ring_23 rfl) (rI d_D_ring_24 rfl) d_D_ring_25 (by decide)))) (sRi (xE (rF 4 fl_D_311 nk_0_4 (rFr fl_D_79 nk_11_11 (rAn 0 d_D_ring_28 rfl) d_D_ring_29) d_D_ring_32 rfl)) d_D_ring_35 rfl)) (sRi (xE (rT2 (rNot (rJ1 (tgt := 65) k_eq (rS p_D_between (Nat.le_trans (Nat.le_of_ble_eq_true rfl) hd) ls_D_104 (rAi (rAi (rAi rA0 (rIn 1 d_D_ring_36 rfl)) (rI d_D_ring_37 rfl)) (r2 o_sub (rF 4 fl_D_311 nk_0_4 (rFr fl_D_79 nk_11_11 (rAn 0 d_D_ring_38 rfl) d_D_ring_39) d_D_ring_42 rfl) (rI d_D_ring_45 rfl) d_D_ring_46)) (by decide) d_D_ring_47) d_D_ring_50 (by decide))) (rGoE (p2 := 66) (rIa (rFr fl_D_382 nk_0_3 (rFr fl_D_79 nk_11_11 (rAn 0 d_D_ring_53 rfl) d_D_ring_54) d_D_ring_57) (rIn 1 d_D_ring_60 rfl) d_D_ring_61) d_D_ring_62 (by decide)) (rI d_D_ring_65 rfl))) d_D_ring_66 rfl)))))
theorem m_M_findsRing : Cond.instanceMethod y_M_findsRing.1 ∈ zTb ∧ Cond.selects y_M_findsRing.1.cls y_M_findsRing.1 y_M_findsRing.1 ∈ zTb ∧ Cond.initialized y_M_findsRing.1.cls ∈ zTb ∧ Cond.code y_M_findsRing.1 y_M_findsRing.2.1 y_M_findsRing.2.2.1 y_M_findsRing.2.2.2 ∈ zTb ∧ (y_M_findsRing.1.cls ≠ "java/lang/invoke/MethodHandle" ∧ y_M_findsRing.1.cls ≠ "java/lang/invoke/VarHandle" ∧ (parseMethodDescriptor y_M_findsRing.1.desc).map (fun d => d.parameters.length) = some 0) ∧ y_M_findsRing.2.2.1 ≤ 20 :=
  ⟨(zTb_in 1983 (by decide +kernel) (by decide +kernel)), (List.mem_filter.mpr ⟨List.mem_append_left _ (by decide +kernel), by decide +kernel⟩), (zTb_in 151 (by decide +kernel) (by decide +kernel)), (zTb_in 1984 (by decide +kernel) (by decide +kernel)), by decide +kernel, by decide +kernel⟩
theorem lv_M_455 : zLv "DebtDoorsModel" 455 y_M_findsRing 0 12 := ⟨⟨(zTb_in 1981 (by decide +kernel) (by decide +kernel)), m_M_findsRing.1, m_M_findsRing.2.1, m_M_findsRing.2.2⟩, _, rfl, rfl⟩
def y_M_ring : zMt := (⟨"DebtDoorsModel", "ring", "(I)I"⟩, prog_14_method_122_code, 2, some .int)
theorem d_M_ring_0 : decode prog_14_method_122_code 0 = .ok (.aload_n 0, 1) := by decide +kernel
theorem d_M_ring_1 : decode prog_14_method_122_code 1 = .ok (.invokevirtual 455, 3) := by decide +kernel
theorem d_M_ring_4 : decode prog_14_method_122_code 4 = .ok (.iload_n 1, 1) := by decide +kernel
theorem d_M_ring_5 : decode prog_14_method_122_code 5 = .ok (.iconst (-1), 1) := by decide +kernel
theorem d_M_ring_6 : decode prog_14_method_122_code 6 = .ok (.if_icmp .ne 17, 3) := by decide +kernel
theorem d_M_ring_9 : decode prog_14_method_122_code 9 = .ok (.aload_n 0, 1) := by decide +kernel
theorem d_M_ring_10 : decode prog_14_method_122_code 10 = .ok (.getfield 446, 3) := by decide +kernel
theorem d_M_ring_13 : decode prog_14_method_122_code 13 = .ok (.ifCond .le 10, 3) := by decide +kernel
theorem d_M_ring_16 : decode prog_14_method_122_code 16 = .ok (.aload_n 0, 1) := by decide +kernel
theorem d_M_ring_17 : decode prog_14_method_122_code 17 = .ok (.getfield 446, 3) := by decide +kernel
theorem d_M_ring_20 : decode prog_14_method_122_code 20 = .ok (.goto 27, 3) := by decide +kernel
theorem d_M_ring_23 : decode prog_14_method_122_code 23 = .ok (.iload_n 1, 1) := by decide +kernel
theorem d_M_ring_24 : decode prog_14_method_122_code 24 = .ok (.iconst 0, 1) := by decide +kernel
theorem d_M_ring_25 : decode prog_14_method_122_code 25 = .ok (.aload_n 0, 1) := by decide +kernel
theorem d_M_ring_26 : decode prog_14_method_122_code 26 = .ok (.getfield 446, 3) := by decide +kernel
theorem d_M_ring_29 : decode prog_14_method_122_code 29 = .ok (.iconst 1, 1) := by decide +kernel
theorem d_M_ring_30 : decode prog_14_method_122_code 30 = .ok (.isub, 1) := by decide +kernel
theorem d_M_ring_31 : decode prog_14_method_122_code 31 = .ok (.invokestatic 123, 3) := by decide +kernel
theorem d_M_ring_34 : decode prog_14_method_122_code 34 = .ok (.ifCond .eq 12, 3) := by decide +kernel
theorem d_M_ring_37 : decode prog_14_method_122_code 37 = .ok (.aload_n 0, 1) := by decide +kernel
theorem d_M_ring_38 : decode prog_14_method_122_code 38 = .ok (.getfield 98, 3) := by decide +kernel
theorem d_M_ring_41 : decode prog_14_method_122_code 41 = .ok (.iload_n 1, 1) := by decide +kernel
theorem d_M_ring_42 : decode prog_14_method_122_code 42 = .ok (.iaload, 1) := by decide +kernel
theorem d_M_ring_43 : decode prog_14_method_122_code 43 = .ok (.goto 4, 3) := by decide +kernel
theorem d_M_ring_46 : decode prog_14_method_122_code 46 = .ok (.iconst (-1), 1) := by decide +kernel
theorem d_M_ring_47 : decode prog_14_method_122_code 47 = .ok (.ireturn, 1) := by decide +kernel
def w_M_ring {d : Nat} (hd : 2 ≤ d) := (show SS ("DebtDoorsModel", prog_14_method_122_code, 2) (some .int) d 0 0 0 0 _ from (sS (p1 := 4) (sV (xVv lv_M_455 (xA (rAr rA0 (rAn 0 d_M_ring_0 rfl))) (by decide) d_M_ring_1)) (sRi (xE (rT2 (rAnd (mm := 9) (rNot (rJ2 (tgt := 23) j_ne (rIn 1 d_M_ring_4 rfl) (rI d_M_ring_5 rfl) d_M_ring_6 (by decide))) (rNot (rJ1 (tgt := 23) k_le (rF 43 fl_M_446 nk_12_43 (rAn 0 d_M_ring_9 rfl) d_M_ring_10 rfl) d_M_ring_13 (by decide)))) (rGoE (p2 := 47) (rF 43 fl_M_446 nk_12_43 (rAn 0 d_M_ring_16 rfl) d_M_ring_17 rfl) d_M_ring_20 (by decide)) (rT2 (rNot (rJ1 (tgt := 46) k_eq (rS p_M_lies (Nat.le_trans (Nat.le_of_ble_eq_true rfl) hd) ls_M_123 (rAi (rAi (rAi rA0 (rIn 1 d_M_ring_23 rfl)) (rI d_M_ring_24 rfl)) (r2 o_sub (rF 43 fl_M_446 nk_12_43 (rAn 0 d_M_ring_25 rfl) d_M_ring_26 rfl) (rI d_M_ring_29 rfl) d_M_ring_30)) (by decide) d_M_ring_31) d_M_ring_34 (by decide))) (rGoE (p2 := 47) (rIa (rFr fl_M_98 nk_12_42 (rAn 0 d_M_ring_37 rfl) d_M_ring_38) (rIn 1 d_M_ring_41 rfl) d_M_ring_42) d_M_ring_43 (by decide)) (rI d_M_ring_46 rfl)))) d_M_ring_47 rfl)))
theorem LC_ring {i : Int} : LC y_D_ring y_M_ring [vi i] := LC.tl (f := fun Z F A w => rgV (rgA Z A) i) (fun μ Z F A w h => by
    have hn := h.1.1
    refine zCw.use (zSp.ss [vr 0, vi i] rfl (w_D_ring (d := 100) (by decide)) rfl rfl ?_) (by decide) (fun q μ' e => e)
    (try simp only [zit_e, Bool.and_eq_true, Bool.or_eq_true, Bool.not_eq_true', Bool.and_eq_false_iff, Bool.or_eq_false_iff, Bool.not_eq_false', zbe, zdt, zdf, zb2_p, zbp_0, zbp_1, zbp_inj, zbp_01, Bool.true_eq_false, Bool.false_eq_true, true_and, and_true, Decidable.not_not, Classical.not_not, implies_true, List.nil_append, List.cons_append, List.append_assoc, Option.some.injEq, Sum.inl.injEq, zSw_c, zSw_n]); (try simp only [zit_e, Bool.and_eq_true, Bool.or_eq_true, Bool.not_eq_true', Bool.and_eq_false_iff, Bool.or_eq_false_iff, Bool.not_eq_false', zbe, zdt, zdf, zb2_p, zbp_0, zbp_1, zbp_inj, zbp_01, Bool.true_eq_false, Bool.false_eq_true, true_and, and_true, Decidable.not_not, Classical.not_not, implies_true, List.nil_append, List.cons_append, List.append_assoc, Option.some.injEq, Sum.inl.injEq, zSw_c, zSw_n, zc_0, zc_1, zc_346, f_D_between, g_D_between]); (try simp only [zi_cs, zi_c0, zii_cs, zii_c0, zl_cs, zl_c0, zll_cs, zll_c0, zr_cs, zr_c0, zrr_cs, zrr_c0, zxs_cs, zxs_c0, zxx_cs, zxx_c0, zfree_c0, zfree_c1, zfree_cs, zfree_cz, zlong_i, zlong_r, zlong_x, zset_0, zset_s, true_and, and_true, Option.some.injEq, Sum.inl.injEq, Sum.inr.injEq, zb2_p, zbp_0, zbp_1, zbp_inj, zbp_01, Nat.zero_add, Nat.reduceAdd, implies_true, List.nil_append, List.cons_append, List.append_assoc, Int.not_lt, Int.not_le, Decidable.not_not, Int.zero_add, Int.reduceLE, Int.reduceLT, Int.reduceEq, Int.reduceNe, Int.reduceAdd, Int.reduceSub, Int.reduceMul, Int.reduceNeg, Int.reduceToNat, Nat.reduceMul, Nat.reduceLT, Nat.reduceEqDiff, and_self, ite_true, ite_false, zx1, zx2, zRecv, List.length_cons, List.length_nil, ne_eq, not_true_eq_false, not_false_eq_true, true_or, or_true, or_false, false_or, and_false, false_and, zf01, zf10, reduceCtorEq, zSw_c, zSw_n, zm_r, zit_T, zit_F, false_implies, true_implies, zc_0, zc_1, zc_346, f_D_between, g_D_between])
    refine zCw.use (q_C_seek (d := 12) (by decide) h) (by omega) (fun q μ2 e => ?_)
    obtain ⟨rfl, hF, hL, hR⟩ := e
    have hm : HM μ μ2 := hF.hm (by simp)
    have hk : KC μ μ2 := hF.kc (by simp [scC])
    refine ⟨rfl, ?_⟩
    generalize rgA Z A = B at *
    rcases B with _ | l
    · have hR : μ2 346 4 = 0 := hR
      rw [if_pos hR]
      exact ⟨rfl, hm, hk⟩
    · obtain ⟨r1, r2⟩ := hR
      have hll := LR_l (by omega) hL
      rw [r1, if_neg (by omega)]
      unfold rgV
      simp only
      refine zif (fun c => ?_) (fun c => ?_)
      · rw [if_pos c]
        exact ⟨rfl, hm, hk⟩
      · rw [if_neg c]
        refine ⟨⟨zI_s (by omega) (by omega), fun _ => by omega⟩, ?_, hm, hk⟩
        by_cases c2 : 0 ≤ i ∧ i < (l.length : Int)
        · rw [zit_t (by omega), if_pos c2]
          have := r2 i.toNat (by omega)
          rw [Int.toNat_of_nonneg c2.1] at this
          exact this
        · rw [zit_f (by omega), if_neg c2]) (fun μ Z F A w h => by
    have hn := h.1.1
    refine zCw.use (zSp.ss [vr 355, vi i] rfl (w_M_ring (d := 100) (by decide)) rfl rfl ?_) (by decide) (fun q μ' e => e)
    (try simp only [zit_e, Bool.and_eq_true, Bool.or_eq_true, Bool.not_eq_true', Bool.and_eq_false_iff, Bool.or_eq_false_iff, Bool.not_eq_false', zbe, zdt, zdf, zb2_p, zbp_0, zbp_1, zbp_inj, zbp_01, Bool.true_eq_false, Bool.false_eq_true, true_and, and_true, Decidable.not_not, Classical.not_not, implies_true, List.nil_append, List.cons_append, List.append_assoc, Option.some.injEq, Sum.inl.injEq, zSw_c, zSw_n]); (try simp only [zit_e, Bool.and_eq_true, Bool.or_eq_true, Bool.not_eq_true', Bool.and_eq_false_iff, Bool.or_eq_false_iff, Bool.not_eq_false', zbe, zdt, zdf, zb2_p, zbp_0, zbp_1, zbp_inj, zbp_01, Bool.true_eq_false, Bool.false_eq_true, true_and, and_true, Decidable.not_not, Classical.not_not, implies_true, List.nil_append, List.cons_append, List.append_assoc, Option.some.injEq, Sum.inl.injEq, zSw_c, zSw_n, zc_355, f_M_lies, g_M_lies]); (try simp only [zi_cs, zi_c0, zii_cs, zii_c0, zl_cs, zl_c0, zll_cs, zll_c0, zr_cs, zr_c0, zrr_cs, zrr_c0, zxs_cs, zxs_c0, zxx_cs, zxx_c0, zfree_c0, zfree_c1, zfree_cs, zfree_cz, zlong_i, zlong_r, zlong_x, zset_0, zset_s, true_and, and_true, Option.some.injEq, Sum.inl.injEq, Sum.inr.injEq, zb2_p, zbp_0, zbp_1, zbp_inj, zbp_01, Nat.zero_add, Nat.reduceAdd, implies_true, List.nil_append, List.cons_append, List.append_assoc, Int.not_lt, Int.not_le, Decidable.not_not, Int.zero_add, Int.reduceLE, Int.reduceLT, Int.reduceEq, Int.reduceNe, Int.reduceAdd, Int.reduceSub, Int.reduceMul, Int.reduceNeg, Int.reduceToNat, Nat.reduceMul, Nat.reduceLT, Nat.reduceEqDiff, and_self, ite_true, ite_false, zx1, zx2, zRecv, List.length_cons, List.length_nil, ne_eq, not_true_eq_false, not_false_eq_true, true_or, or_true, or_false, false_or, and_false, false_and, zf01, zf10, reduceCtorEq, zSw_c, zSw_n, zm_r, zit_T, zit_F, false_implies, true_implies, zc_355, f_M_lies, g_M_lies])
    refine zCw.use (q_R_findsRing (d := 13) (by decide) h) (by omega) (fun q μ2 e => ?_)
    obtain ⟨rfl, hF, hL, hR⟩ := e
    have hm : HC μ μ2 := hF.1.hc (by simp)
    have hk : KM μ μ2 := hF.km
    refine ⟨rfl, ?_⟩
    generalize rgA Z A = B at *
    rcases B with _ | l
    · have hR : μ2 355 43 = 0 := hR
      rw [hR]
      refine ⟨fun _ => ⟨by ((try simp only [zI_e]); (first | done | omega | skip)), fun q => by omega⟩, ?_, hm, hk⟩
      rw [zit_f (by omega), zit_f (by omega)]
      rfl
    · obtain ⟨⟨r1, r3, r4⟩, r5, r2⟩ := hR
      rw [r1]
      have hll := LR_l (by omega) hL
      unfold rgV
      simp only
      refine ⟨fun _ => ⟨zI_s (by omega) (by omega), fun _ => by omega⟩, ?_, hm, hk⟩
      by_cases c : i = -1
      · rw [zit_t ⟨c, by omega⟩, if_pos c]
      · rw [zit_f (fun q => c q.1), if_neg c]
        by_cases c2 : 0 ≤ i ∧ i < (l.length : Int)
        · rw [zit_t (by omega), if_pos c2]
          have := r2 i.toNat (by omega)
          rw [Int.toNat_of_nonneg c2.1] at this
          exact this
        · rw [zit_f (by omega), if_neg c2])

