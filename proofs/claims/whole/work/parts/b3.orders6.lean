/-! orders: the reference's deeds -/
noncomputable def sm (x : Int) : Int := if x < 0 ∨ 1000000 < x then -1 else x
theorem sm_e {x : Int} (h : 0 ≤ x ∧ x ≤ 1000000) : sm x = x := by
  unfold sm
  rw [if_neg (by omega)]
theorem sm_c {x : Int} : sm x = x ∨ (sm x = -1 ∧ (x < 0 ∨ 1000000 < x)) := by
  unfold sm
  by_cases c : x < 0 ∨ 1000000 < x
  · rw [if_pos c]
    exact Or.inr ⟨rfl, c⟩
  · rw [if_neg c]
    exact Or.inl rfl
theorem sm_f {x : Int} {μ : zMem} : f_M_small [vl x] μ = sm x := by
  unfold sm f_M_small
  rfl
theorem lend_sm {Z : Zt} {A : Lg} {g t m : Int} (hZ : Z.1 ≤ 7) : lendA Z A (sm g) (sm t) (sm m) = lendA Z A g t m ∧ (0 ≤ lendA Z A g t m → sm g = g ∧ sm t = t ∧ sm m = m) := by
  refine ⟨?_, fun h => ?_⟩
  · unfold lendA lendC
    by_cases c1 : 1 ≤ m ∧ m ≤ 9999
    · rw [sm_e (x := m) (by omega)]
      rw [zit_f (show ¬ ¬ (1 ≤ m ∧ m ≤ 9999) by omega), zit_f (show ¬ ¬ (1 ≤ m ∧ m ≤ 9999) by omega)]
      by_cases c2 : (0 ≤ g ∧ g < Z.1) ∧ 0 ≤ t ∧ t < Z.1
      · rw [sm_e (x := g) (by omega), sm_e (x := t) (by omega)]
      · have h1 := sm_c (x := g)
        have h2 := sm_c (x := t)
        rw [zit_t c2, zit_t (by omega)]
    · have h1 := sm_c (x := m)
      rw [zit_t c1, zit_t (by omega)]
  · have := lendC_0 h
    exact ⟨sm_e (by omega), sm_e (by omega), sm_e (by omega)⟩
theorem pay_sm {Z : Zt} {A : Lg} {g t m : Int} (hZ : Z.1 ≤ 7) : payA Z A (sm g) (sm t) (sm m) = payA Z A g t m ∧ (0 ≤ payA Z A g t m → sm g = g ∧ sm t = t ∧ sm m = m) := by
  refine ⟨?_, fun h => ?_⟩
  · unfold payA payC
    by_cases c1 : 1 ≤ m ∧ m ≤ 9999
    · rw [sm_e (x := m) (by omega)]
      rw [zit_f (show ¬ ¬ (1 ≤ m ∧ m ≤ 9999) by omega), zit_f (show ¬ ¬ (1 ≤ m ∧ m ≤ 9999) by omega)]
      by_cases c2 : (0 ≤ g ∧ g < Z.1) ∧ 0 ≤ t ∧ t < Z.1
      · rw [sm_e (x := g) (by omega), sm_e (x := t) (by omega)]
      · have h1 := sm_c (x := g)
        have h2 := sm_c (x := t)
        rw [zit_t c2, zit_t (by omega)]
    · have h1 := sm_c (x := m)
      rw [zit_t c1, zit_t (by omega)]
  · have := payC_0 h
    exact ⟨sm_e (by omega), sm_e (by omega), sm_e (by omega)⟩
def KpM (k : Int) (μ μ' : zMem) : Prop := (0 ≤ μ' 355 28 ∧ μ' 355 28 ≤ 16) ∧ unM μ' = kpL (unM μ) (tL 73 (μ 357) ++ [k]) ∧ (∀ i : Int, 73 ≤ i → μ' 357 i = μ 357 i) ∧ (∀ j : Int, j ≠ 20 → j ≠ 21 → j ≠ 22 → j ≠ 23 → j ≠ 28 → μ' 355 j = μ 355 j) ∧ zfc [355, 357, 367, 369] μ μ'
theorem q_R_lendsKept {d : Nat} (hd : 4 ≤ d) {μ : zMem} {Z : Zt} {F : Option (List Cls)} {A : Lg} {w : Int → Int} {g t m : Int} (h : MTx μ Z F A w) (hu : 0 ≤ μ 355 28 ∧ μ 355 28 ≤ 16) : zSp d 0 0 y_M_lendsKept zT0 [vr 355, vi g, vi t, vi m] μ zT0 (fun r μ' => r = some (vi (lendA Z A g t m)) ∧ (lendA Z A g t m < 0 → μ' = μ) ∧ (0 ≤ lendA Z A g t m → MTx μ' Z F (ldA A g t m) w ∧ KpM 0 μ μ')) := by
  obtain ⟨n1, n2, n3, n4, n5, n6, n7⟩ := h.n
  obtain ⟨hp, hk⟩ := h.p
  have hz7 := h.1.1.2
  have hcl : lendA Z A g t m = lendC (μ 357 152) (μ 357) (μ 357 71) g t m := by
    unfold lendA
    rw [n2, n6]
    exact (lendC_c hz7 hp).symm
  refine (q_M_lendsKept hd n1 hk n5 hu).imp (fun q X e => ?_)
  rw [← hcl] at e
  obtain ⟨rfl, e1, e2⟩ := e
  refine ⟨rfl, e1, fun cc => ?_⟩
  have hg := lendC_0 cc
  obtain ⟨f1, f2, f3, f4, f5, f6, f7, f8⟩ := e2 cc
  have e73 : ∀ i : Int, 73 ≤ i → X 357 i = μ 357 i := fun i hi => by rw [f7 i (by omega), zit_f (by omega), zit_f (by omega)]
  refine ⟨h.up (ldA_ok h.1 h.2.1 cc) (lgM_is ?_ ?_ ?_) (by omega) e73, f3, f2, e73, fun j _ _ _ _ hj => f4 j hj, f8.mo (by simp)⟩
  · refine mvP_e (p := μ 357) hp (by omega) (fun j _ _ => ?_)
    rw [f7 j (by omega)]
  · rw [f5, n3, n4]
    rfl
  · rw [f7 72 (by decide), zit_f (by omega), zit_f (by omega), n4]
    rfl
theorem q_R_repaysKept {d : Nat} (hd : 5 ≤ d) {μ : zMem} {Z : Zt} {F : Option (List Cls)} {A : Lg} {w : Int → Int} {g t m : Int} (h : MTx μ Z F A w) (hu : 0 ≤ μ 355 28 ∧ μ 355 28 ≤ 16) : zSp d 0 0 y_M_repaysKept zT0 [vr 355, vi g, vi t, vi m] μ zT0 (fun r μ' => r = some (vi (payA Z A g t m)) ∧ (payA Z A g t m < 0 → μ' = μ) ∧ (0 ≤ payA Z A g t m → MTx μ' Z F (pdA A g t (payA Z A g t m)) w ∧ KpM 1 μ μ')) := by
  obtain ⟨n1, n2, n3, n4, n5, n6, n7⟩ := h.n
  obtain ⟨hp, hk⟩ := h.p
  have hz7 := h.1.1.2
  have hcl : payA Z A g t m = payC (μ 357 152) (μ 357) (dbM μ) g t m := by
    unfold payA
    rw [n2, n3]
    exact (payC_c hz7 hp).1.symm
  refine (q_M_repaysKept hd n1 hk h.d.2.2.2.1 hu).imp (fun q X e => ?_)
  rw [← hcl, n3] at e
  obtain ⟨rfl, e1, e2⟩ := e
  refine ⟨rfl, e1, fun cc => ?_⟩
  have hg := payC_0 cc
  have hm1 : muchC (μ 357) A.2.1 g t m = payA Z A g t m := by
    rw [payA_m cc]
    exact (payC_c (D := A.2.1) (m := m) hz7 hp).2 hg.2.1
  obtain ⟨f1, f9, f2, f3, f4, f5, f6, f7, f8⟩ := e2 cc
  rw [hm1] at f5 f7
  have e73 : ∀ i : Int, 73 ≤ i → X 357 i = μ 357 i := fun i hi => by rw [f7 i (by omega), zit_f (by omega), zit_f (by omega)]
  refine ⟨h.up (by rw [payA_m cc]; exact pdA_ok h.1 h.2.1 cc) (lgM_is ?_ ?_ ?_) f6.1 e73, f3, f2, e73, fun j _ _ _ _ hj => f4 j hj, f8.mo (by simp)⟩
  · refine mvP_e (p := μ 357) hp (by omega) (fun j _ _ => ?_)
    rw [f7 j (by omega)]
  · rw [f5]
    rfl
  · rw [f7 72 (by decide), zit_f (by omega), zit_f (by omega), n4]
    rfl
theorem q_R_waitsKept {d : Nat} (hd : 52 ≤ d) {μ : zMem} {Z : Zt} {F : Option (List Cls)} {A : Lg} {w : Int → Int} (h : MTx μ Z F A w) (hu : 0 ≤ μ 355 28 ∧ μ 355 28 ≤ 16) : zSp d 0 0 y_M_waitsKept zT0 [vr 355] μ zT0 (fun r μ' => (999 ≤ A.2.2 → r = some (vi (-3)) ∧ μ' = μ) ∧ (A.2.2 < 999 → r = some (vi (grw Z F w A A.2.1.length).2) ∧ MTx μ' Z F (grw Z F w A A.2.1.length).1 w ∧ KpM 4 μ μ')) := by
  obtain ⟨n1, n2, n3, n4, n5, n6, n7⟩ := h.n
  refine zSp.ss [vr 355] rfl (w_M_waitsKept (Nat.le_trans (by decide) hd)) rfl rfl ?_
  (try simp only [zit_e, Bool.and_eq_true, Bool.or_eq_true, Bool.not_eq_true', Bool.and_eq_false_iff, Bool.or_eq_false_iff, Bool.not_eq_false', zbe, zdt, zdf, zb2_p, zbp_0, zbp_1, zbp_inj, zbp_01, Bool.true_eq_false, Bool.false_eq_true, true_and, and_true, Decidable.not_not, Classical.not_not, implies_true, List.nil_append, List.cons_append, List.append_assoc, Option.some.injEq, Sum.inl.injEq, zSw_c, zSw_n]); (try simp only [zit_e, Bool.and_eq_true, Bool.or_eq_true, Bool.not_eq_true', Bool.and_eq_false_iff, Bool.or_eq_false_iff, Bool.not_eq_false', zbe, zdt, zdf, zb2_p, zbp_0, zbp_1, zbp_inj, zbp_01, Bool.true_eq_false, Bool.false_eq_true, true_and, and_true, Decidable.not_not, Classical.not_not, implies_true, List.nil_append, List.cons_append, List.append_assoc, Option.some.injEq, Sum.inl.injEq, zSw_c, zSw_n, zc_355]); (try simp only [zi_cs, zi_c0, zii_cs, zii_c0, zl_cs, zl_c0, zll_cs, zll_c0, zr_cs, zr_c0, zrr_cs, zrr_c0, zxs_cs, zxs_c0, zxx_cs, zxx_c0, zfree_c0, zfree_c1, zfree_cs, zfree_cz, zlong_i, zlong_r, zlong_x, zset_0, zset_s, true_and, and_true, Option.some.injEq, Sum.inl.injEq, Sum.inr.injEq, zb2_p, zbp_0, zbp_1, zbp_inj, zbp_01, Nat.zero_add, Nat.reduceAdd, implies_true, List.nil_append, List.cons_append, List.append_assoc, Int.not_lt, Int.not_le, Decidable.not_not, Int.zero_add, Int.reduceLE, Int.reduceLT, Int.reduceEq, Int.reduceNe, Int.reduceAdd, Int.reduceSub, Int.reduceMul, Int.reduceNeg, Int.reduceToNat, Nat.reduceMul, Nat.reduceLT, Nat.reduceEqDiff, and_self, ite_true, ite_false, zx1, zx2, zRecv, List.length_cons, List.length_nil, ne_eq, not_true_eq_false, not_false_eq_true, true_or, or_true, or_false, false_or, and_false, false_and, zf01, zf10, reduceCtorEq, zSw_c, zSw_n, zm_r, zit_T, zit_F, false_implies, true_implies, zc_355])
  rw [n4]
  have hda := h.2.1.2.2
  refine zif (fun c => fun c2 => absurd c (by omega)) (fun c => ?_)
  refine zCw.use (q_M_keeps (d := 1) (by decide) hu) (by omega) (fun q X e => ?_)
  obtain ⟨rfl, e1, e2, e3, e4⟩ := e
  have k7 := e4 357 (by decide)
  refine ⟨rfl, ?_⟩
  refine zCw.use (q_M_waits (d := 50) (by decide) (h.k k7) (by omega)) (by omega) (fun q Y e => ?_)
  obtain ⟨rfl, f1, f2, f3, f4⟩ := e
  have hg : zfc [355, 357, 367, 369] μ Y := (e4.tr f4).mo (by simp)
  have h28 := f3 28 (by decide) (by decide) (by decide) (by decide)
  refine ⟨_, rfl, fun q => absurd q (by omega), fun _ => ⟨rfl, f1, by rw [h28]; exact e2, ?_, fun i hi => by rw [f2 i hi, k7], fun j p q r s hj => by rw [f3 j p q r s, e3 j hj], hg⟩⟩
  rw [← e1]
  unfold unM rwM
  rw [h28, f4 369 (by decide)]
/-- the row that is kept -/
theorem MTx.rw {μ : zMem} {Z : Zt} {F : Option (List Cls)} {A : Lg} {w : Int → Int} {k : Int} (h : MTx μ Z F A w) (hk : 0 ≤ k ∧ k ≤ 5) : RwR (A, k) (tL 73 (μ 357) ++ [k]) := by
  obtain ⟨n1, n2, n3, n4, n5, n6, n7⟩ := h.n
  obtain ⟨hp, hpk⟩ := h.p
  refine ⟨fun i x y => ?_, ⟨h.2.1.2.1, ?_, ?_⟩, ⟨?_, h.2.1.2.2⟩, gL_apl, hk⟩
  · rw [gL_app x (by omega)]
    exact ⟨(hp i x y).symm, hpk i x y⟩
  · rw [gL_app (by decide) (by decide)]
    exact n6
  · rw [show (A, k).1.2.1 = A.2.1 from rfl, ← n3]
    exact dbM_c (μ := μ) (μ' := fun _ => gL 0 (tL 73 (μ 357) ++ [k])) (by omega) (fun j p q => gL_app (by omega) (by omega))
  · rw [gL_app (by decide) (by decide)]
    exact n4.symm ▸ n4

