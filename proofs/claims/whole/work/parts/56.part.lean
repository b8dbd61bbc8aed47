/-! the reader's parts -/
theorem wr_w {d : Nat} (hd : 2 ≤ d) {B : Int → Int} {n : Nat} {o : Bool} {t l w : Nat} {μ : zMem} {p a : Int} {K : zRo} (h : PSt B n o t l w μ) (hw : w < 385) (ho : 0 ≤ p ∧ p < 14) (ha : 0 ≤ a ∧ a < 4096) (hk : ∀ μ', PSt B n o t l (w + 1) μ' → FR μ μ' → μ' 323 w = p * 4096 + a → (∀ i : Int, i < w → μ' 323 i = μ 323 i) → K none μ') : zCw d y_Re_write [vr 321, vi p, vi a] μ K :=
  zCw.use (q_Re_write (d := 1) (by decide) ho ha (by rw [h.2.2.1]; omega)) hd (fun q μ' e => by
    obtain ⟨rfl, rfl⟩ := e
    rw [h.2.2.1]
    refine hk _ ⟨RD_c h.1 (by rw [zm_off 322 (by decide), zm_off 322 (by decide)]) (fun j hj => ?_), ?_, ?_, ?_⟩ ⟨(zfc.rf.zm (by decide)).zm (by decide), ?_, ?_⟩ ?_ (fun i hi => ?_)
    · simp only [zi_cs, zi_c0, zii_cs, zii_c0, zl_cs, zl_c0, zll_cs, zll_c0, zr_cs, zr_c0, zrr_cs, zrr_c0, zxs_cs, zxs_c0, zxx_cs, zxx_c0, zfree_c0, zfree_c1, zfree_cs, zfree_cz, zlong_i, zlong_r, zlong_x, zset_0, zset_s, true_and, and_true, Option.some.injEq, Sum.inl.injEq, Sum.inr.injEq, zb2_p, zbp_0, zbp_1, zbp_inj, zbp_01, Nat.zero_add, Nat.reduceAdd, implies_true, List.nil_append, List.cons_append, List.append_assoc, Int.not_lt, Int.not_le, Decidable.not_not, Int.zero_add, Int.reduceLE, Int.reduceLT, Int.reduceEq, Int.reduceNe, Int.reduceAdd, Int.reduceSub, Int.reduceMul, Int.reduceNeg, Int.reduceToNat, Nat.reduceMul, Nat.reduceLT, Nat.reduceEqDiff, and_self, ite_true, ite_false, zx1, zx2, zRecv, List.length_cons, List.length_nil, ne_eq, not_true_eq_false, not_false_eq_true, true_or, or_true, or_false, false_or, and_false, false_and, zf01, zf10, reduceCtorEq, zSw_c, zSw_n, zm_r, zit_T, zit_F, false_implies, true_implies]
      rw [zit_f (by omega)]
    · simp only [zi_cs, zi_c0, zii_cs, zii_c0, zl_cs, zl_c0, zll_cs, zll_c0, zr_cs, zr_c0, zrr_cs, zrr_c0, zxs_cs, zxs_c0, zxx_cs, zxx_c0, zfree_c0, zfree_c1, zfree_cs, zfree_cz, zlong_i, zlong_r, zlong_x, zset_0, zset_s, true_and, and_true, Option.some.injEq, Sum.inl.injEq, Sum.inr.injEq, zb2_p, zbp_0, zbp_1, zbp_inj, zbp_01, Nat.zero_add, Nat.reduceAdd, implies_true, List.nil_append, List.cons_append, List.append_assoc, Int.not_lt, Int.not_le, Decidable.not_not, Int.zero_add, Int.reduceLE, Int.reduceLT, Int.reduceEq, Int.reduceNe, Int.reduceAdd, Int.reduceSub, Int.reduceMul, Int.reduceNeg, Int.reduceToNat, Nat.reduceMul, Nat.reduceLT, Nat.reduceEqDiff, and_self, ite_true, ite_false, zx1, zx2, zRecv, List.length_cons, List.length_nil, ne_eq, not_true_eq_false, not_false_eq_true, true_or, or_true, or_false, false_or, and_false, false_and, zf01, zf10, reduceCtorEq, zSw_c, zSw_n, zm_r, zit_T, zit_F, false_implies, true_implies]
      exact h.2.1
    · simp only [zi_cs, zi_c0, zii_cs, zii_c0, zl_cs, zl_c0, zll_cs, zll_c0, zr_cs, zr_c0, zrr_cs, zrr_c0, zxs_cs, zxs_c0, zxx_cs, zxx_c0, zfree_c0, zfree_c1, zfree_cs, zfree_cz, zlong_i, zlong_r, zlong_x, zset_0, zset_s, true_and, and_true, Option.some.injEq, Sum.inl.injEq, Sum.inr.injEq, zb2_p, zbp_0, zbp_1, zbp_inj, zbp_01, Nat.zero_add, Nat.reduceAdd, implies_true, List.nil_append, List.cons_append, List.append_assoc, Int.not_lt, Int.not_le, Decidable.not_not, Int.zero_add, Int.reduceLE, Int.reduceLT, Int.reduceEq, Int.reduceNe, Int.reduceAdd, Int.reduceSub, Int.reduceMul, Int.reduceNeg, Int.reduceToNat, Nat.reduceMul, Nat.reduceLT, Nat.reduceEqDiff, and_self, ite_true, ite_false, zx1, zx2, zRecv, List.length_cons, List.length_nil, ne_eq, not_true_eq_false, not_false_eq_true, true_or, or_true, or_false, false_or, and_false, false_and, zf01, zf10, reduceCtorEq, zSw_c, zSw_n, zm_r, zit_T, zit_F, false_implies, true_implies]
      omega
    · simp only [zi_cs, zi_c0, zii_cs, zii_c0, zl_cs, zl_c0, zll_cs, zll_c0, zr_cs, zr_c0, zrr_cs, zrr_c0, zxs_cs, zxs_c0, zxx_cs, zxx_c0, zfree_c0, zfree_c1, zfree_cs, zfree_cz, zlong_i, zlong_r, zlong_x, zset_0, zset_s, true_and, and_true, Option.some.injEq, Sum.inl.injEq, Sum.inr.injEq, zb2_p, zbp_0, zbp_1, zbp_inj, zbp_01, Nat.zero_add, Nat.reduceAdd, implies_true, List.nil_append, List.cons_append, List.append_assoc, Int.not_lt, Int.not_le, Decidable.not_not, Int.zero_add, Int.reduceLE, Int.reduceLT, Int.reduceEq, Int.reduceNe, Int.reduceAdd, Int.reduceSub, Int.reduceMul, Int.reduceNeg, Int.reduceToNat, Nat.reduceMul, Nat.reduceLT, Nat.reduceEqDiff, and_self, ite_true, ite_false, zx1, zx2, zRecv, List.length_cons, List.length_nil, ne_eq, not_true_eq_false, not_false_eq_true, true_or, or_true, or_false, false_or, and_false, false_and, zf01, zf10, reduceCtorEq, zSw_c, zSw_n, zm_r, zit_T, zit_F, false_implies, true_implies]
      exact h.2.2.2
    · simp only [zi_cs, zi_c0, zii_cs, zii_c0, zl_cs, zl_c0, zll_cs, zll_c0, zr_cs, zr_c0, zrr_cs, zrr_c0, zxs_cs, zxs_c0, zxx_cs, zxx_c0, zfree_c0, zfree_c1, zfree_cs, zfree_cz, zlong_i, zlong_r, zlong_x, zset_0, zset_s, true_and, and_true, Option.some.injEq, Sum.inl.injEq, Sum.inr.injEq, zb2_p, zbp_0, zbp_1, zbp_inj, zbp_01, Nat.zero_add, Nat.reduceAdd, implies_true, List.nil_append, List.cons_append, List.append_assoc, Int.not_lt, Int.not_le, Decidable.not_not, Int.zero_add, Int.reduceLE, Int.reduceLT, Int.reduceEq, Int.reduceNe, Int.reduceAdd, Int.reduceSub, Int.reduceMul, Int.reduceNeg, Int.reduceToNat, Nat.reduceMul, Nat.reduceLT, Nat.reduceEqDiff, and_self, ite_true, ite_false, zx1, zx2, zRecv, List.length_cons, List.length_nil, ne_eq, not_true_eq_false, not_false_eq_true, true_or, or_true, or_false, false_or, and_false, false_and, zf01, zf10, reduceCtorEq, zSw_c, zSw_n, zm_r, zit_T, zit_F, false_implies, true_implies]
    · simp only [zi_cs, zi_c0, zii_cs, zii_c0, zl_cs, zl_c0, zll_cs, zll_c0, zr_cs, zr_c0, zrr_cs, zrr_c0, zxs_cs, zxs_c0, zxx_cs, zxx_c0, zfree_c0, zfree_c1, zfree_cs, zfree_cz, zlong_i, zlong_r, zlong_x, zset_0, zset_s, true_and, and_true, Option.some.injEq, Sum.inl.injEq, Sum.inr.injEq, zb2_p, zbp_0, zbp_1, zbp_inj, zbp_01, Nat.zero_add, Nat.reduceAdd, implies_true, List.nil_append, List.cons_append, List.append_assoc, Int.not_lt, Int.not_le, Decidable.not_not, Int.zero_add, Int.reduceLE, Int.reduceLT, Int.reduceEq, Int.reduceNe, Int.reduceAdd, Int.reduceSub, Int.reduceMul, Int.reduceNeg, Int.reduceToNat, Nat.reduceMul, Nat.reduceLT, Nat.reduceEqDiff, and_self, ite_true, ite_false, zx1, zx2, zRecv, List.length_cons, List.length_nil, ne_eq, not_true_eq_false, not_false_eq_true, true_or, or_true, or_false, false_or, and_false, false_and, zf01, zf10, reduceCtorEq, zSw_c, zSw_n, zm_r, zit_T, zit_F, false_implies, true_implies]
    · simp only [zi_cs, zi_c0, zii_cs, zii_c0, zl_cs, zl_c0, zll_cs, zll_c0, zr_cs, zr_c0, zrr_cs, zrr_c0, zxs_cs, zxs_c0, zxx_cs, zxx_c0, zfree_c0, zfree_c1, zfree_cs, zfree_cz, zlong_i, zlong_r, zlong_x, zset_0, zset_s, true_and, and_true, Option.some.injEq, Sum.inl.injEq, Sum.inr.injEq, zb2_p, zbp_0, zbp_1, zbp_inj, zbp_01, Nat.zero_add, Nat.reduceAdd, implies_true, List.nil_append, List.cons_append, List.append_assoc, Int.not_lt, Int.not_le, Decidable.not_not, Int.zero_add, Int.reduceLE, Int.reduceLT, Int.reduceEq, Int.reduceNe, Int.reduceAdd, Int.reduceSub, Int.reduceMul, Int.reduceNeg, Int.reduceToNat, Nat.reduceMul, Nat.reduceLT, Nat.reduceEqDiff, and_self, ite_true, ite_false, zx1, zx2, zRecv, List.length_cons, List.length_nil, ne_eq, not_true_eq_false, not_false_eq_true, true_or, or_true, or_false, false_or, and_false, false_and, zf01, zf10, reduceCtorEq, zSw_c, zSw_n, zm_r, zit_T, zit_F, false_implies, true_implies]
    · simp only [zi_cs, zi_c0, zii_cs, zii_c0, zl_cs, zl_c0, zll_cs, zll_c0, zr_cs, zr_c0, zrr_cs, zrr_c0, zxs_cs, zxs_c0, zxx_cs, zxx_c0, zfree_c0, zfree_c1, zfree_cs, zfree_cz, zlong_i, zlong_r, zlong_x, zset_0, zset_s, true_and, and_true, Option.some.injEq, Sum.inl.injEq, Sum.inr.injEq, zb2_p, zbp_0, zbp_1, zbp_inj, zbp_01, Nat.zero_add, Nat.reduceAdd, implies_true, List.nil_append, List.cons_append, List.append_assoc, Int.not_lt, Int.not_le, Decidable.not_not, Int.zero_add, Int.reduceLE, Int.reduceLT, Int.reduceEq, Int.reduceNe, Int.reduceAdd, Int.reduceSub, Int.reduceMul, Int.reduceNeg, Int.reduceToNat, Nat.reduceMul, Nat.reduceLT, Nat.reduceEqDiff, and_self, ite_true, ite_false, zx1, zx2, zRecv, List.length_cons, List.length_nil, ne_eq, not_true_eq_false, not_false_eq_true, true_or, or_true, or_false, false_or, and_false, false_and, zf01, zf10, reduceCtorEq, zSw_c, zSw_n, zm_r, zit_T, zit_F, false_implies, true_implies]
      rw [zit_f (by omega)])
theorem nx_w {d : Nat} (hd : 5 ≤ d) {B : Int → Int} {n : Nat} {o : Bool} {t l w : Nat} {μ : zMem} {K : zRo} (hB : okB B n) (h : PSt B n o t l w μ) (hk : ∀ μ', PSt B n o (t + 1) l w μ' → FR μ μ' → μ' 323 = μ 323 → K none μ') : zCw d y_Re_next [vr 321] μ K :=
  zCw.use (q_Re_next (d := 4) (by decide) hB h.1) (by omega) (fun q μ' e => by
    obtain ⟨rfl, e1, e2, e3⟩ := e
    obtain ⟨g1, g2, g3⟩ := PSt_next h e1 e2 e3
    exact hk _ g1 g2 g3)
theorem fl_w {d : Nat} (hd : 2 ≤ d) {B : Int → Int} {n : Nat} {o : Bool} {t l w : Nat} {μ : zMem} {K : zRo} (h : PSt B n o t l w μ) (hk : ∀ μ', μ' 321 3 = (ps B n t : Int) → FR μ μ' → K (some (vi 0)) μ') : zCw d y_Re_fail [vr 321] μ K :=
  zCw.use (q_Re_fail (d := 1) (by decide)) (by omega) (fun q μ' e => by
    obtain ⟨rfl, rfl⟩ := e
    exact hk _ (by rw [zm_s, (RD_p h.1).1.1]) (PSt_fault h))
theorem RP_n {B : Int → Int} {n : Nat} {o : Bool} {t w : Nat} {μ μ' : zMem} {x : Int} (h1 : x = 0) (h2 : μ' 321 3 = (ps B n t : Int)) (h3 : FR μ μ') : RP B n o (t, none) w μ (some (vi x)) μ' := by
  refine ⟨fun t1 e => ?_, fun t1 l1 m c e => ?_⟩
  · cases e
    exact ⟨by rw [h1], h2, h3⟩
  · cases e
theorem RP_s {B : Int → Int} {n : Nat} {o : Bool} {t l w : Nat} {m : Mn} {c : List Int} {μ μ' : zMem} {x : Int} (h1 : x = 1) (h2 : PSt B n o t l (w + c.length) μ') (h3 : Seg (μ' 323) w c) (h4 : ∀ i : Int, i < w → μ' 323 i = μ 323 i) (h5 : FR μ μ') : RP B n o (t, some (l, m, c)) w μ (some (vi x)) μ' := by
  refine ⟨fun t1 e => ?_, fun t1 l1 m1 c1 e => ?_⟩
  · cases e
  · cases e
    exact ⟨by rw [h1], h2, h3, h4, h5⟩
theorem Seg1 {p : Int → Int} {w : Nat} {x : Int} (h : p w = x) : Seg p w [x] := Seg_cons.mpr ⟨h, Seg_nil⟩
theorem ts_w {d : Nat} (hd : 6 ≤ d) {B : Int → Int} {n : Nat} {o : Bool} {t l w : Nat} {μ : zMem} {s : Int} {K : zRo} (hB : okB B n) (h : PSt B n o t l w μ) (hs : okS s) (hk : cT B n t = 100 + s → ∀ μ', PSt B n o (t + 1) l w μ' → FR μ μ' → μ' 323 = μ 323 → K (some (vi 1)) μ') (hf : ¬ cT B n t = 100 + s → ∀ μ', μ' 321 3 = (ps B n t : Int) → FR μ μ' → K (some (vi 0)) μ') : zCw d y_Re_takeSign [vr 321, vi s] μ K :=
  zCw.use (q_Re_takeSign (d := 5) (by decide) hB h.1 hs) hd (fun q μ' e => by
    by_cases c : cT B n t = 100 + s
    · obtain ⟨rfl, e1, e2, e3⟩ := e.1 c
      obtain ⟨g1, g2, g3⟩ := PSt_next h e1 e2 e3
      exact hk c _ g1 g2 g3
    · obtain ⟨rfl, rfl⟩ := e.2 c
      exact hf c _ zm_s (PSt_fault h))
theorem tk_w {d : Nat} (hd : 12 ≤ d) {B : Int → Int} {n : Nat} {o : Bool} {t l w x : Nat} {μ : zMem} {K : zRo} (hB : okB B n) (h : PSt B n o t l w μ) (hx : 2 ≤ x ∧ x < 13) (hk : kwF x (cT B n t) = 0 → ∀ μ', PSt B n o (t + 1) l w μ' → FR μ μ' → μ' 323 = μ 323 → K (some (vi 1)) μ') (hf : ¬ kwF x (cT B n t) = 0 → ∀ μ', μ' 321 3 = (ps B n t : Int) → FR μ μ' → K (some (vi 0)) μ') : zCw d y_Re_take [vr 321, vx x] μ K :=
  zCw.use (q_Re_take (d := 11) (by decide) hB h.1 hx) hd (fun q μ' e => by
    by_cases c : kwF x (cT B n t) = 0
    · obtain ⟨rfl, e1, e2, e3⟩ := e.1 c
      obtain ⟨g1, g2, g3⟩ := PSt_next h e1 e2 e3
      exact hk c _ g1 g2 g3
    · obtain ⟨rfl, rfl⟩ := e.2 c
      exact hf c _ zm_s (PSt_fault h))
theorem q_Re_lawWord {d : Nat} (hd : 10 ≤ d) {B : Int → Int} {n : Nat} {t l w : Nat} {μ : zMem} (hB : okB B n) (h : PSt B n false t l w μ) (hw : w < 385) : zSp d 0 0 y_Re_lawWord zT0 [vr 321] μ zT0 (RP B n false (if 9 ≤ cT B n t ∧ cT B n t ≤ 18 then (t + 1, some (l, fun W => some (W (cT B n t - 9)), [8192 + (cT B n t - 9)])) else (t, none)) w μ) := by
  have hp := RD_p h.1
  have hB1 := hB.1
  have hwd := RD_word hB h.1 (show 2 ≤ 11 ∧ 11 < 13 by decide)
  refine zSp.ss [vr 321, vx 0] rfl (w_Re_lawWord (Nat.le_trans (by decide) hd)) rfl rfl ?_
  (try simp only [zit_e, Bool.and_eq_true, Bool.or_eq_true, Bool.not_eq_true', Bool.and_eq_false_iff, Bool.or_eq_false_iff, Bool.not_eq_false', zbe, zdt, zdf, zb2_p, zbp_0, zbp_1, zbp_inj, zbp_01, Bool.true_eq_false, Bool.false_eq_true, true_and, and_true, Decidable.not_not, Classical.not_not, implies_true, List.nil_append, List.cons_append, List.append_assoc, Option.some.injEq, Sum.inl.injEq, zSw_c, zSw_n]); (try simp only [zit_e, Bool.and_eq_true, Bool.or_eq_true, Bool.not_eq_true', Bool.and_eq_false_iff, Bool.or_eq_false_iff, Bool.not_eq_false', zbe, zdt, zdf, zb2_p, zbp_0, zbp_1, zbp_inj, zbp_01, Bool.true_eq_false, Bool.false_eq_true, true_and, and_true, Decidable.not_not, Classical.not_not, implies_true, List.nil_append, List.cons_append, List.append_assoc, Option.some.injEq, Sum.inl.injEq, zSw_c, zSw_n, zc_321, f_Re_wordIn, g_Re_wordIn]); (try simp only [zi_cs, zi_c0, zii_cs, zii_c0, zl_cs, zl_c0, zll_cs, zll_c0, zr_cs, zr_c0, zrr_cs, zrr_c0, zxs_cs, zxs_c0, zxx_cs, zxx_c0, zfree_c0, zfree_c1, zfree_cs, zfree_cz, zlong_i, zlong_r, zlong_x, zset_0, zset_s, true_and, and_true, Option.some.injEq, Sum.inl.injEq, Sum.inr.injEq, zb2_p, zbp_0, zbp_1, zbp_inj, zbp_01, Nat.zero_add, Nat.reduceAdd, implies_true, List.nil_append, List.cons_append, List.append_assoc, Int.not_lt, Int.not_le, Decidable.not_not, Int.zero_add, Int.reduceLE, Int.reduceLT, Int.reduceEq, Int.reduceNe, Int.reduceAdd, Int.reduceSub, Int.reduceMul, Int.reduceNeg, Int.reduceToNat, Nat.reduceMul, Nat.reduceLT, Nat.reduceEqDiff, and_self, ite_true, ite_false, zx1, zx2, zRecv, List.length_cons, List.length_nil, ne_eq, not_true_eq_false, not_false_eq_true, true_or, or_true, or_false, false_or, and_false, false_and, zf01, zf10, reduceCtorEq, zSw_c, zSw_n, zm_r, zit_T, zit_F, false_implies, true_implies, zc_321, f_Re_wordIn, g_Re_wordIn])
  rw [hwd]
  have hk : kwF 11 (cT B n t) = if 9 ≤ cT B n t ∧ cT B n t ≤ 18 then cT B n t - 9 else -1 := rfl
  refine ⟨⟨by decide, fun _ => by omega⟩, ?_⟩
  by_cases c : 9 ≤ cT B n t ∧ cT B n t ≤ 18
  · rw [if_pos c] at hk
    simp only [if_pos c]
    rw [hk, if_neg (by omega)]
    exact wr_w (by omega) h hw (by decide) (by omega) (fun μ1 a1 a2 a3 a4 => ⟨rfl, nx_w (by omega) hB a1 (fun μ2 b1 b2 b3 => ⟨rfl, RP_s rfl b1 (Seg1 (by rw [b3, a3]; omega)) (fun i hi => by rw [b3]; exact a4 i hi) (a2.tr b2)⟩)⟩)
  · rw [if_neg c] at hk
    simp only [if_neg c]
    rw [hk, if_pos rfl]
    exact fl_w (by omega) h (fun μ' a b => ⟨0, rfl, Or.inl rfl, RP_n rfl a b⟩)
theorem q_Re_orderWord {d : Nat} (hd : 10 ≤ d) {B : Int → Int} {n : Nat} {t l w : Nat} {μ : zMem} (hB : okB B n) (h : PSt B n true t l w μ) (hw : w < 385) : zSp d 0 0 y_Re_orderWord zT0 [vr 321] μ zT0 (RP B n true (if cT B n t = 17 ∨ (19 ≤ cT B n t ∧ cT B n t ≤ 21) then (t + 1, some (l, fun W => some (W (ordI (cT B n t))), [8192 + ordI (cT B n t)]))
     else if cT B n t = 22 ∨ cT B n t = 23 then
       (if cT B n (t + 1) = 50 ∧ vT B n (t + 1) ≤ 6 then
          (if cT B n t = 22 then (t + 2, some (l, fun W => some (W (4 + vT B n (t + 1))), [8192 + (4 + vT B n (t + 1))]))
           else if cT B n (t + 2) = 50 ∧ vT B n (t + 2) ≤ 6 then (t + 3, some (l, fun W => some (W (11 + 7 * vT B n (t + 1) + vT B n (t + 2))), [8192 + (11 + 7 * vT B n (t + 1) + vT B n (t + 2))]))
           else (t + 2, none))
        else (t + 1, none))
     else (t, none)) w μ) := by
  have hp := RD_p h.1
  have hB1 := hB.1
  have hwd := RD_word hB h.1 (show 2 ≤ 12 ∧ 12 < 13 by decide)
  refine zSp.ss [vr 321, vx 0, vx 0, vx 0, vx 0] rfl (w_Re_orderWord (Nat.le_trans (by decide) hd)) rfl rfl ?_
  (try simp only [zit_e, Bool.and_eq_true, Bool.or_eq_true, Bool.not_eq_true', Bool.and_eq_false_iff, Bool.or_eq_false_iff, Bool.not_eq_false', zbe, zdt, zdf, zb2_p, zbp_0, zbp_1, zbp_inj, zbp_01, Bool.true_eq_false, Bool.false_eq_true, true_and, and_true, Decidable.not_not, Classical.not_not, implies_true, List.nil_append, List.cons_append, List.append_assoc, Option.some.injEq, Sum.inl.injEq, zSw_c, zSw_n]); (try simp only [zit_e, Bool.and_eq_true, Bool.or_eq_true, Bool.not_eq_true', Bool.and_eq_false_iff, Bool.or_eq_false_iff, Bool.not_eq_false', zbe, zdt, zdf, zb2_p, zbp_0, zbp_1, zbp_inj, zbp_01, Bool.true_eq_false, Bool.false_eq_true, true_and, and_true, Decidable.not_not, Classical.not_not, implies_true, List.nil_append, List.cons_append, List.append_assoc, Option.some.injEq, Sum.inl.injEq, zSw_c, zSw_n, zc_321, f_Re_wordIn, g_Re_wordIn]); (try simp only [zi_cs, zi_c0, zii_cs, zii_c0, zl_cs, zl_c0, zll_cs, zll_c0, zr_cs, zr_c0, zrr_cs, zrr_c0, zxs_cs, zxs_c0, zxx_cs, zxx_c0, zfree_c0, zfree_c1, zfree_cs, zfree_cz, zlong_i, zlong_r, zlong_x, zset_0, zset_s, true_and, and_true, Option.some.injEq, Sum.inl.injEq, Sum.inr.injEq, zb2_p, zbp_0, zbp_1, zbp_inj, zbp_01, Nat.zero_add, Nat.reduceAdd, implies_true, List.nil_append, List.cons_append, List.append_assoc, Int.not_lt, Int.not_le, Decidable.not_not, Int.zero_add, Int.reduceLE, Int.reduceLT, Int.reduceEq, Int.reduceNe, Int.reduceAdd, Int.reduceSub, Int.reduceMul, Int.reduceNeg, Int.reduceToNat, Nat.reduceMul, Nat.reduceLT, Nat.reduceEqDiff, and_self, ite_true, ite_false, zx1, zx2, zRecv, List.length_cons, List.length_nil, ne_eq, not_true_eq_false, not_false_eq_true, true_or, or_true, or_false, false_or, and_false, false_and, zf01, zf10, reduceCtorEq, zSw_c, zSw_n, zm_r, zit_T, zit_F, false_implies, true_implies, zc_321, f_Re_wordIn, g_Re_wordIn])
  rw [hwd]
  have hk : kwF 12 (cT B n t) = if cT B n t = 17 then 0 else if 19 ≤ cT B n t ∧ cT B n t ≤ 23 then cT B n t - 18 else -1 := rfl
  refine ⟨⟨by decide, fun _ => by omega⟩, ?_⟩
  by_cases c : cT B n t = 17 ∨ (19 ≤ cT B n t ∧ cT B n t ≤ 21)
  · have hk2 : kwF 12 (cT B n t) = ordI (cT B n t) ∧ 0 ≤ ordI (cT B n t) ∧ ordI (cT B n t) < 4 := by
      rw [hk]
      unfold ordI
      split
      · omega
      · rw [if_pos (by omega)]
        omega
    simp only [if_pos c]
    rw [hk2.1, if_neg (by omega)]
    refine nx_w (by omega) hB h (fun μ1 a1 a2 a3 => ⟨rfl, ?_⟩)
    rw [if_pos (by omega)]
    exact wr_w (by omega) a1 hw (by decide) (by omega) (fun μ2 b1 b2 b3 b4 => ⟨rfl, RP_s rfl b1 (Seg1 (by rw [b3]; omega)) (fun i hi => by rw [b4 i hi, a3]) (a2.tr b2)⟩)
  simp only [if_neg c]
  by_cases c2 : cT B n t = 22 ∨ cT B n t = 23
  · have hk2 : kwF 12 (cT B n t) = cT B n t - 18 := by
      rw [hk, if_neg (by omega), if_pos (by omega)]
    simp only [if_pos c2]
    rw [hk2, if_neg (by omega)]
    refine nx_w (by omega) hB h (fun μ1 a1 a2 a3 => ⟨rfl, ?_⟩)
    rw [if_neg (by omega)]
    obtain ⟨p, hp2, hp3⟩ : ∃ p : Nat, zit (cT B n t - 18 = 4) 1 2 = (p : Int) ∧ ((cT B n t = 22 ∧ p = 1) ∨ (cT B n t = 23 ∧ p = 2)) := by
      rcases c2 with e | e
      · exact ⟨1, zit_t (by omega), Or.inl ⟨e, rfl⟩⟩
      · exact ⟨2, zit_f (by omega), Or.inr ⟨e, rfl⟩⟩
    rw [hp2]
    have hv1 := vT_in (B := B) (n := n) (t := t + 1)
    have hv2 := vT_in (B := B) (n := n) (t := t + 2)
    refine zLoop.up p (fun j ρ μ2 => ∃ P : Int, ρ = [vr 321, vi (cT B n t - 18), vi p, vi P, vi j] ∧ PSt B n true (t + 1 + j) l w μ2 ∧ FR μ μ2 ∧ μ2 323 = μ 323 ∧ (0 < j → cT B n (t + 1) = 50 ∧ vT B n (t + 1) ≤ 6) ∧ (1 < j → cT B n (t + 2) = 50 ∧ vT B n (t + 2) ≤ 6) ∧ (j = 0 → P = 0) ∧ (j = 1 → P = vT B n (t + 1)) ∧ (j = 2 → P = vT B n (t + 1) * 7 + vT B n (t + 2))) ⟨0, rfl, a1, a2, a3, fun q => by omega, fun q => by omega, fun _ => rfl, fun q => by omega, fun q => by omega⟩ ?_
    rintro j ρ μ2 hj ⟨P, rfl, b1, b2, b3, b4, b5, b6, b7, b8⟩
    have hP : 0 ≤ P ∧ P ≤ 48 := by
      rcases (show j = 0 ∨ j = 1 ∨ j = 2 by omega) with e | e | e
      · have := b6 e
        omega
      · have := b7 e
        have := b4 (by omega)
        omega
      · have := b8 e
        have := b4 (by omega)
        have := b5 (by omega)
        omega
    (try simp only [zit_e, Bool.and_eq_true, Bool.or_eq_true, Bool.not_eq_true', Bool.and_eq_false_iff, Bool.or_eq_false_iff, Bool.not_eq_false', zbe, zdt, zdf, zb2_p, zbp_0, zbp_1, zbp_inj, zbp_01, Bool.true_eq_false, Bool.false_eq_true, true_and, and_true, Decidable.not_not, Classical.not_not, implies_true, List.nil_append, List.cons_append, List.append_assoc, Option.some.injEq, Sum.inl.injEq, zSw_c, zSw_n]); (try simp only [zit_e, Bool.and_eq_true, Bool.or_eq_true, Bool.not_eq_true', Bool.and_eq_false_iff, Bool.or_eq_false_iff, Bool.not_eq_false', zbe, zdt, zdf, zb2_p, zbp_0, zbp_1, zbp_inj, zbp_01, Bool.true_eq_false, Bool.false_eq_true, true_and, and_true, Decidable.not_not, Classical.not_not, implies_true, List.nil_append, List.cons_append, List.append_assoc, Option.some.injEq, Sum.inl.injEq, zSw_c, zSw_n, zc_321]); (try simp only [zi_cs, zi_c0, zii_cs, zii_c0, zl_cs, zl_c0, zll_cs, zll_c0, zr_cs, zr_c0, zrr_cs, zrr_c0, zxs_cs, zxs_c0, zxx_cs, zxx_c0, zfree_c0, zfree_c1, zfree_cs, zfree_cz, zlong_i, zlong_r, zlong_x, zset_0, zset_s, true_and, and_true, Option.some.injEq, Sum.inl.injEq, Sum.inr.injEq, zb2_p, zbp_0, zbp_1, zbp_inj, zbp_01, Nat.zero_add, Nat.reduceAdd, implies_true, List.nil_append, List.cons_append, List.append_assoc, Int.not_lt, Int.not_le, Decidable.not_not, Int.zero_add, Int.reduceLE, Int.reduceLT, Int.reduceEq, Int.reduceNe, Int.reduceAdd, Int.reduceSub, Int.reduceMul, Int.reduceNeg, Int.reduceToNat, Nat.reduceMul, Nat.reduceLT, Nat.reduceEqDiff, and_self, ite_true, ite_false, zx1, zx2, zRecv, List.length_cons, List.length_nil, ne_eq, not_true_eq_false, not_false_eq_true, true_or, or_true, or_false, false_or, and_false, false_and, zf01, zf10, reduceCtorEq, zSw_c, zSw_n, zm_r, zit_T, zit_F, false_implies, true_implies, zc_321])
    refine zif (fun c6 => ?_) (fun c6 => ?_)
    · have hn := RD_num hB b1.1
      have hv := vT_in (B := B) (n := n) (t := t + 1 + j)
      refine zif (fun c7 => ?_) (fun c7 => ?_)
      · have c8 : ¬ (cT B n (t + 1 + j) = 50 ∧ vT B n (t + 1 + j) ≤ 6) := fun z => by
          have := hn.1
          have := hn.2.1 z.1
          omega
        refine fl_w (by omega) b1 (fun μ3 e1 e2 => ⟨0, rfl, Or.inl rfl, ?_⟩)
        rcases (show j = 0 ∨ j = 1 by omega) with e | e
        · subst e
          have c9 : ¬ (cT B n (t + 1) = 50 ∧ vT B n (t + 1) ≤ 6) := c8
          simp only [if_neg c9]
          exact RP_n rfl e1 (b2.tr e2)
        · subst e
          have c9 : ¬ (cT B n (t + 2) = 50 ∧ vT B n (t + 2) ≤ 6) := c8
          have c10 : ¬ cT B n t = 22 := by omega
          simp only [if_pos (b4 (by decide)), if_neg c10, if_neg c9]
          exact RP_n rfl e1 (b2.tr e2)
      · have c5 : cT B n (t + 1 + j) = 50 := by
          have := hn.1
          omega
        have h10 := hn.2.1 c5
        have hle : vT B n (t + 1 + j) ≤ 6 := by omega
        have h11 : μ2 321 10 = vT B n (t + 1 + j) := by omega
        refine ⟨⟨zI_s (by omega) (by omega), zI_s (by omega) (by omega)⟩, nx_w (by omega) hB b1 (fun μ3 e1 e2 e3 => ⟨rfl, zI_s (by omega) (by omega), znx (by omega) ⟨P * 7 + vT B n (t + 1 + j), ?_, e1, b2.tr e2, by rw [e3, b3], ?_, ?_, ?_, ?_, ?_⟩⟩)⟩
        · rw [h11]
          rfl
        · intro _
          rcases Nat.eq_zero_or_pos j with e | e
          · subst e
            exact ⟨c5, hle⟩
          · exact b4 e
        · intro q
          have e : j = 1 := by omega
          subst e
          exact ⟨c5, hle⟩
        · intro q
          omega
        · intro q
          have e : j = 0 := by omega
          subst e
          have := b6 rfl
          show P * 7 + vT B n (t + 1) = vT B n (t + 1)
          omega
        · intro q
          have e : j = 1 := by omega
          subst e
          have := b7 rfl
          show P * 7 + vT B n (t + 2) = vT B n (t + 1) * 7 + vT B n (t + 2)
          omega
    · rcases hp3 with ⟨c4, e⟩ | ⟨c4, e⟩
      · have ej : j = 1 := by omega
        subst ej
        have hk3 := b7 rfl
        simp only [if_pos (b4 (by decide)), if_pos c4]
        rw [zit_t (show cT B n t - 18 = 4 by omega)]
        exact ⟨zI_s (by omega) (by omega), wr_w (by omega) b1 hw (by decide) (by omega) (fun μ3 e1 e2 e3 e4 => ⟨rfl, RP_s rfl e1 (Seg1 (by rw [e3]; omega)) (fun i hi => by rw [e4 i hi, b3]) (b2.tr e2)⟩)⟩
      · have ej : j = 2 := by omega
        subst ej
        have hk3 := b8 rfl
        have c10 : ¬ cT B n t = 22 := by omega
        simp only [if_pos (b4 (by decide)), if_neg c10, if_pos (b5 (by decide))]
        rw [zit_f (show ¬ cT B n t - 18 = 4 by omega)]
        exact ⟨zI_s (by omega) (by omega), wr_w (by omega) b1 hw (by decide) (by omega) (fun μ3 e1 e2 e3 e4 => ⟨rfl, RP_s rfl e1 (Seg1 (by rw [e3]; omega)) (fun i hi => by rw [e4 i hi, b3]) (b2.tr e2)⟩)⟩
  · have hk2 : kwF 12 (cT B n t) = -1 := by
      rw [hk, if_neg (by omega), if_neg (by omega)]
    simp only [if_neg c2]
    rw [hk2, if_pos rfl]
    exact fl_w (by omega) h (fun μ' a b => ⟨0, rfl, Or.inl rfl, RP_n rfl a b⟩)
theorem RP.tr {B : Int → Int} {n : Nat} {o : Bool} {R : PrR} {w : Nat} {μ μ1 μ2 : zMem} {r : Option zV} (h : RP B n o R w μ1 r μ2) (h1 : FR μ μ1) (h2 : ∀ i : Int, i < w → μ1 323 i = μ 323 i) : RP B n o R w μ r μ2 := by
  refine ⟨fun t1 e => ?_, fun t1 l1 m c e => ?_⟩
  · obtain ⟨a1, a2, a3⟩ := h.1 t1 e
    exact ⟨a1, a2, h1.tr a3⟩
  · obtain ⟨a1, a2, a3, a4, a5⟩ := h.2 t1 l1 m c e
    exact ⟨a1, a2, a3, fun i hi => by rw [a4 i hi, h2 i hi], h1.tr a5⟩
theorem PSt_parts {B : Int → Int} {n : Nat} {o : Bool} {t l w : Nat} {μ : zMem} (h : PSt B n o t l w μ) : PSt B n o t (l + 1) w (zm μ 321 6 (l + 1)) ∧ FR μ (zm μ 321 6 (l + 1)) ∧ zm μ 321 6 (l + 1) 323 = μ 323 := by
  refine ⟨⟨RD_c h.1 (zm_off 322 (by decide)) (fun j hj => ?_), ?_, ?_, ?_⟩, ⟨zfc.rf.zm (by decide), ?_, ?_⟩, zm_off 323 (by decide)⟩
  · simp only [zi_cs, zi_c0, zii_cs, zii_c0, zl_cs, zl_c0, zll_cs, zll_c0, zr_cs, zr_c0, zrr_cs, zrr_c0, zxs_cs, zxs_c0, zxx_cs, zxx_c0, zfree_c0, zfree_c1, zfree_cs, zfree_cz, zlong_i, zlong_r, zlong_x, zset_0, zset_s, true_and, and_true, Option.some.injEq, Sum.inl.injEq, Sum.inr.injEq, zb2_p, zbp_0, zbp_1, zbp_inj, zbp_01, Nat.zero_add, Nat.reduceAdd, implies_true, List.nil_append, List.cons_append, List.append_assoc, Int.not_lt, Int.not_le, Decidable.not_not, Int.zero_add, Int.reduceLE, Int.reduceLT, Int.reduceEq, Int.reduceNe, Int.reduceAdd, Int.reduceSub, Int.reduceMul, Int.reduceNeg, Int.reduceToNat, Nat.reduceMul, Nat.reduceLT, Nat.reduceEqDiff, and_self, ite_true, ite_false, zx1, zx2, zRecv, List.length_cons, List.length_nil, ne_eq, not_true_eq_false, not_false_eq_true, true_or, or_true, or_false, false_or, and_false, false_and, zf01, zf10, reduceCtorEq, zSw_c, zSw_n, zm_r, zit_T, zit_F, false_implies, true_implies]
    rw [zit_f (by omega)]
  · simp only [zi_cs, zi_c0, zii_cs, zii_c0, zl_cs, zl_c0, zll_cs, zll_c0, zr_cs, zr_c0, zrr_cs, zrr_c0, zxs_cs, zxs_c0, zxx_cs, zxx_c0, zfree_c0, zfree_c1, zfree_cs, zfree_cz, zlong_i, zlong_r, zlong_x, zset_0, zset_s, true_and, and_true, Option.some.injEq, Sum.inl.injEq, Sum.inr.injEq, zb2_p, zbp_0, zbp_1, zbp_inj, zbp_01, Nat.zero_add, Nat.reduceAdd, implies_true, List.nil_append, List.cons_append, List.append_assoc, Int.not_lt, Int.not_le, Decidable.not_not, Int.zero_add, Int.reduceLE, Int.reduceLT, Int.reduceEq, Int.reduceNe, Int.reduceAdd, Int.reduceSub, Int.reduceMul, Int.reduceNeg, Int.reduceToNat, Nat.reduceMul, Nat.reduceLT, Nat.reduceEqDiff, and_self, ite_true, ite_false, zx1, zx2, zRecv, List.length_cons, List.length_nil, ne_eq, not_true_eq_false, not_false_eq_true, true_or, or_true, or_false, false_or, and_false, false_and, zf01, zf10, reduceCtorEq, zSw_c, zSw_n, zm_r, zit_T, zit_F, false_implies, true_implies]
    omega
  · simp only [zi_cs, zi_c0, zii_cs, zii_c0, zl_cs, zl_c0, zll_cs, zll_c0, zr_cs, zr_c0, zrr_cs, zrr_c0, zxs_cs, zxs_c0, zxx_cs, zxx_c0, zfree_c0, zfree_c1, zfree_cs, zfree_cz, zlong_i, zlong_r, zlong_x, zset_0, zset_s, true_and, and_true, Option.some.injEq, Sum.inl.injEq, Sum.inr.injEq, zb2_p, zbp_0, zbp_1, zbp_inj, zbp_01, Nat.zero_add, Nat.reduceAdd, implies_true, List.nil_append, List.cons_append, List.append_assoc, Int.not_lt, Int.not_le, Decidable.not_not, Int.zero_add, Int.reduceLE, Int.reduceLT, Int.reduceEq, Int.reduceNe, Int.reduceAdd, Int.reduceSub, Int.reduceMul, Int.reduceNeg, Int.reduceToNat, Nat.reduceMul, Nat.reduceLT, Nat.reduceEqDiff, and_self, ite_true, ite_false, zx1, zx2, zRecv, List.length_cons, List.length_nil, ne_eq, not_true_eq_false, not_false_eq_true, true_or, or_true, or_false, false_or, and_false, false_and, zf01, zf10, reduceCtorEq, zSw_c, zSw_n, zm_r, zit_T, zit_F, false_implies, true_implies]
    exact h.2.2.1
  · simp only [zi_cs, zi_c0, zii_cs, zii_c0, zl_cs, zl_c0, zll_cs, zll_c0, zr_cs, zr_c0, zrr_cs, zrr_c0, zxs_cs, zxs_c0, zxx_cs, zxx_c0, zfree_c0, zfree_c1, zfree_cs, zfree_cz, zlong_i, zlong_r, zlong_x, zset_0, zset_s, true_and, and_true, Option.some.injEq, Sum.inl.injEq, Sum.inr.injEq, zb2_p, zbp_0, zbp_1, zbp_inj, zbp_01, Nat.zero_add, Nat.reduceAdd, implies_true, List.nil_append, List.cons_append, List.append_assoc, Int.not_lt, Int.not_le, Decidable.not_not, Int.zero_add, Int.reduceLE, Int.reduceLT, Int.reduceEq, Int.reduceNe, Int.reduceAdd, Int.reduceSub, Int.reduceMul, Int.reduceNeg, Int.reduceToNat, Nat.reduceMul, Nat.reduceLT, Nat.reduceEqDiff, and_self, ite_true, ite_false, zx1, zx2, zRecv, List.length_cons, List.length_nil, ne_eq, not_true_eq_false, not_false_eq_true, true_or, or_true, or_false, false_or, and_false, false_and, zf01, zf10, reduceCtorEq, zSw_c, zSw_n, zm_r, zit_T, zit_F, false_implies, true_implies]
    exact h.2.2.2
  · simp only [zi_cs, zi_c0, zii_cs, zii_c0, zl_cs, zl_c0, zll_cs, zll_c0, zr_cs, zr_c0, zrr_cs, zrr_c0, zxs_cs, zxs_c0, zxx_cs, zxx_c0, zfree_c0, zfree_c1, zfree_cs, zfree_cz, zlong_i, zlong_r, zlong_x, zset_0, zset_s, true_and, and_true, Option.some.injEq, Sum.inl.injEq, Sum.inr.injEq, zb2_p, zbp_0, zbp_1, zbp_inj, zbp_01, Nat.zero_add, Nat.reduceAdd, implies_true, List.nil_append, List.cons_append, List.append_assoc, Int.not_lt, Int.not_le, Decidable.not_not, Int.zero_add, Int.reduceLE, Int.reduceLT, Int.reduceEq, Int.reduceNe, Int.reduceAdd, Int.reduceSub, Int.reduceMul, Int.reduceNeg, Int.reduceToNat, Nat.reduceMul, Nat.reduceLT, Nat.reduceEqDiff, and_self, ite_true, ite_false, zx1, zx2, zRecv, List.length_cons, List.length_nil, ne_eq, not_true_eq_false, not_false_eq_true, true_or, or_true, or_false, false_or, and_false, false_and, zf01, zf10, reduceCtorEq, zSw_c, zSw_n, zm_r, zit_T, zit_F, false_implies, true_implies]
  · simp only [zi_cs, zi_c0, zii_cs, zii_c0, zl_cs, zl_c0, zll_cs, zll_c0, zr_cs, zr_c0, zrr_cs, zrr_c0, zxs_cs, zxs_c0, zxx_cs, zxx_c0, zfree_c0, zfree_c1, zfree_cs, zfree_cz, zlong_i, zlong_r, zlong_x, zset_0, zset_s, true_and, and_true, Option.some.injEq, Sum.inl.injEq, Sum.inr.injEq, zb2_p, zbp_0, zbp_1, zbp_inj, zbp_01, Nat.zero_add, Nat.reduceAdd, implies_true, List.nil_append, List.cons_append, List.append_assoc, Int.not_lt, Int.not_le, Decidable.not_not, Int.zero_add, Int.reduceLE, Int.reduceLT, Int.reduceEq, Int.reduceNe, Int.reduceAdd, Int.reduceSub, Int.reduceMul, Int.reduceNeg, Int.reduceToNat, Nat.reduceMul, Nat.reduceLT, Nat.reduceEqDiff, and_self, ite_true, ite_false, zx1, zx2, zRecv, List.length_cons, List.length_nil, ne_eq, not_true_eq_false, not_false_eq_true, true_or, or_true, or_false, false_or, and_false, false_and, zf01, zf10, reduceCtorEq, zSw_c, zSw_n, zm_r, zit_T, zit_F, false_implies, true_implies]
def y_Re_sum : zMt := (⟨"DebtDoors$Reader", "sum", "(I)Z"⟩, prog_8_method_22_code, 4, some .boolean)
theorem m_Re_sum : Cond.instanceMethod y_Re_sum.1 ∈ zTb ∧ Cond.selects y_Re_sum.1.cls y_Re_sum.1 y_Re_sum.1 ∈ zTb ∧ Cond.initialized y_Re_sum.1.cls ∈ zTb ∧ Cond.code y_Re_sum.1 y_Re_sum.2.1 y_Re_sum.2.2.1 y_Re_sum.2.2.2 ∈ zTb ∧ (y_Re_sum.1.cls ≠ "java/lang/invoke/MethodHandle" ∧ y_Re_sum.1.cls ≠ "java/lang/invoke/VarHandle" ∧ (parseMethodDescriptor y_Re_sum.1.desc).map (fun d => d.parameters.length) = some 1) ∧ y_Re_sum.2.2.1 ≤ 20 :=
  ⟨(zTb_in 824 (by decide +kernel) (by decide +kernel)), (List.mem_filter.mpr ⟨List.mem_append_left _ (by decide +kernel), by decide +kernel⟩), (zTb_in 143 (by decide +kernel) (by decide +kernel)), (zTb_in 825 (by decide +kernel) (by decide +kernel)), by decide +kernel, by decide +kernel⟩
theorem lv_Re_100 : zLv "DebtDoors$Reader" 100 y_Re_sum 1 6 := ⟨⟨(zTb_in 822 (by decide +kernel) (by decide +kernel)), m_Re_sum.1, m_Re_sum.2.1, m_Re_sum.2.2⟩, _, rfl, rfl⟩
theorem m_Re_takeSign : Cond.instanceMethod y_Re_takeSign.1 ∈ zTb ∧ Cond.selects y_Re_takeSign.1.cls y_Re_takeSign.1 y_Re_takeSign.1 ∈ zTb ∧ Cond.initialized y_Re_takeSign.1.cls ∈ zTb ∧ Cond.code y_Re_takeSign.1 y_Re_takeSign.2.1 y_Re_takeSign.2.2.1 y_Re_takeSign.2.2.2 ∈ zTb ∧ (y_Re_takeSign.1.cls ≠ "java/lang/invoke/MethodHandle" ∧ y_Re_takeSign.1.cls ≠ "java/lang/invoke/VarHandle" ∧ (parseMethodDescriptor y_Re_takeSign.1.desc).map (fun d => d.parameters.length) = some 1) ∧ y_Re_takeSign.2.2.1 ≤ 20 :=
  ⟨(zTb_in 840 (by decide +kernel) (by decide +kernel)), (List.mem_filter.mpr ⟨List.mem_append_left _ (by decide +kernel), by decide +kernel⟩), (zTb_in 143 (by decide +kernel) (by decide +kernel)), (zTb_in 841 (by decide +kernel) (by decide +kernel)), by decide +kernel, by decide +kernel⟩
theorem lv_Re_146 : zLv "DebtDoors$Reader" 146 y_Re_takeSign 1 6 := ⟨⟨(zTb_in 838 (by decide +kernel) (by decide +kernel)), m_Re_takeSign.1, m_Re_takeSign.2.1, m_Re_takeSign.2.2⟩, _, rfl, rfl⟩
theorem fl_Re_32 : zFl "DebtDoors$Reader" 32 6 6 := ⟨_, rfl, by decide, (zTb_in 333 (by decide +kernel) (by decide +kernel)), rfl⟩
theorem nk_6_6 : zNk 6 6 = some 0 := rfl
theorem fp_6_6 : zFp 6 6 0 := ⟨_, rfl, rfl, rfl, by decide⟩
theorem fl_Re_25 : zFl "DebtDoors$Reader" 25 6 4 := ⟨_, rfl, by decide, (zTb_in 331 (by decide +kernel) (by decide +kernel)), rfl⟩
theorem nk_6_4 : zNk 6 4 = some 1 := rfl
theorem m_Re_orderWord : Cond.instanceMethod y_Re_orderWord.1 ∈ zTb ∧ Cond.selects y_Re_orderWord.1.cls y_Re_orderWord.1 y_Re_orderWord.1 ∈ zTb ∧ Cond.initialized y_Re_orderWord.1.cls ∈ zTb ∧ Cond.code y_Re_orderWord.1 y_Re_orderWord.2.1 y_Re_orderWord.2.2.1 y_Re_orderWord.2.2.2 ∈ zTb ∧ (y_Re_orderWord.1.cls ≠ "java/lang/invoke/MethodHandle" ∧ y_Re_orderWord.1.cls ≠ "java/lang/invoke/VarHandle" ∧ (parseMethodDescriptor y_Re_orderWord.1.desc).map (fun d => d.parameters.length) = some 0) ∧ y_Re_orderWord.2.2.1 ≤ 20 :=
  ⟨(zTb_in 848 (by decide +kernel) (by decide +kernel)), (List.mem_filter.mpr ⟨List.mem_append_left _ (by decide +kernel), by decide +kernel⟩), (zTb_in 143 (by decide +kernel) (by decide +kernel)), (zTb_in 849 (by decide +kernel) (by decide +kernel)), by decide +kernel, by decide +kernel⟩
theorem lv_Re_155 : zLv "DebtDoors$Reader" 155 y_Re_orderWord 0 6 := ⟨⟨(zTb_in 846 (by decide +kernel) (by decide +kernel)), m_Re_orderWord.1, m_Re_orderWord.2.1, m_Re_orderWord.2.2⟩, _, rfl, rfl⟩
theorem m_Re_lawWord : Cond.instanceMethod y_Re_lawWord.1 ∈ zTb ∧ Cond.selects y_Re_lawWord.1.cls y_Re_lawWord.1 y_Re_lawWord.1 ∈ zTb ∧ Cond.initialized y_Re_lawWord.1.cls ∈ zTb ∧ Cond.code y_Re_lawWord.1 y_Re_lawWord.2.1 y_Re_lawWord.2.2.1 y_Re_lawWord.2.2.2 ∈ zTb ∧ (y_Re_lawWord.1.cls ≠ "java/lang/invoke/MethodHandle" ∧ y_Re_lawWord.1.cls ≠ "java/lang/invoke/VarHandle" ∧ (parseMethodDescriptor y_Re_lawWord.1.desc).map (fun d => d.parameters.length) = some 0) ∧ y_Re_lawWord.2.2.1 ≤ 20 :=
  ⟨(zTb_in 853 (by decide +kernel) (by decide +kernel)), (List.mem_filter.mpr ⟨List.mem_append_left _ (by decide +kernel), by decide +kernel⟩), (zTb_in 143 (by decide +kernel) (by decide +kernel)), (zTb_in 854 (by decide +kernel) (by decide +kernel)), by decide +kernel, by decide +kernel⟩
theorem lv_Re_158 : zLv "DebtDoors$Reader" 158 y_Re_lawWord 0 6 := ⟨⟨(zTb_in 851 (by decide +kernel) (by decide +kernel)), m_Re_lawWord.1, m_Re_lawWord.2.1, m_Re_lawWord.2.2⟩, _, rfl, rfl⟩
def y_Re_part : zMt := (⟨"DebtDoors$Reader", "part", "(I)Z"⟩, prog_8_method_24_code, 2, some .boolean)
theorem d_Re_part_0 : decode prog_8_method_24_code 0 = .ok (.aload_n 0, 1) := by decide +kernel
theorem d_Re_part_1 : decode prog_8_method_24_code 1 = .ok (.bipush 91, 2) := by decide +kernel
theorem d_Re_part_3 : decode prog_8_method_24_code 3 = .ok (.invokevirtual 48, 3) := by decide +kernel
theorem d_Re_part_6 : decode prog_8_method_24_code 6 = .ok (.ifCond .eq 43, 3) := by decide +kernel
theorem d_Re_part_9 : decode prog_8_method_24_code 9 = .ok (.iload_n 1, 1) := by decide +kernel
theorem d_Re_part_10 : decode prog_8_method_24_code 10 = .ok (.bipush 8, 2) := by decide +kernel
theorem d_Re_part_12 : decode prog_8_method_24_code 12 = .ok (.if_icmp .lt 8, 3) := by decide +kernel
theorem d_Re_part_15 : decode prog_8_method_24_code 15 = .ok (.aload_n 0, 1) := by decide +kernel
theorem d_Re_part_16 : decode prog_8_method_24_code 16 = .ok (.invokevirtual 54, 3) := by decide +kernel
theorem d_Re_part_19 : decode prog_8_method_24_code 19 = .ok (.ireturn, 1) := by decide +kernel
theorem d_Re_part_20 : decode prog_8_method_24_code 20 = .ok (.aload_n 0, 1) := by decide +kernel
theorem d_Re_part_21 : decode prog_8_method_24_code 21 = .ok (.invokevirtual 38, 3) := by decide +kernel
theorem d_Re_part_24 : decode prog_8_method_24_code 24 = .ok (.aload_n 0, 1) := by decide +kernel
theorem d_Re_part_25 : decode prog_8_method_24_code 25 = .ok (.iload_n 1, 1) := by decide +kernel
theorem d_Re_part_26 : decode prog_8_method_24_code 26 = .ok (.iconst 1, 1) := by decide +kernel
theorem d_Re_part_27 : decode prog_8_method_24_code 27 = .ok (.iadd, 1) := by decide +kernel
theorem d_Re_part_28 : decode prog_8_method_24_code 28 = .ok (.invokevirtual 100, 3) := by decide +kernel
theorem d_Re_part_31 : decode prog_8_method_24_code 31 = .ok (.ifCond .eq 16, 3) := by decide +kernel
theorem d_Re_part_34 : decode prog_8_method_24_code 34 = .ok (.aload_n 0, 1) := by decide +kernel
theorem d_Re_part_35 : decode prog_8_method_24_code 35 = .ok (.bipush 93, 2) := by decide +kernel
theorem d_Re_part_37 : decode prog_8_method_24_code 37 = .ok (.invokevirtual 146, 3) := by decide +kernel
theorem d_Re_part_40 : decode prog_8_method_24_code 40 = .ok (.ifCond .eq 7, 3) := by decide +kernel
theorem d_Re_part_43 : decode prog_8_method_24_code 43 = .ok (.iconst 1, 1) := by decide +kernel
theorem d_Re_part_44 : decode prog_8_method_24_code 44 = .ok (.goto 4, 3) := by decide +kernel
theorem d_Re_part_47 : decode prog_8_method_24_code 47 = .ok (.iconst 0, 1) := by decide +kernel
theorem d_Re_part_48 : decode prog_8_method_24_code 48 = .ok (.ireturn, 1) := by decide +kernel
theorem d_Re_part_49 : decode prog_8_method_24_code 49 = .ok (.aload_n 0, 1) := by decide +kernel
theorem d_Re_part_50 : decode prog_8_method_24_code 50 = .ok (.getfield 32, 3) := by decide +kernel
theorem d_Re_part_53 : decode prog_8_method_24_code 53 = .ok (.bipush 50, 2) := by decide +kernel
theorem d_Re_part_55 : decode prog_8_method_24_code 55 = .ok (.if_icmp .lt 8, 3) := by decide +kernel
theorem d_Re_part_58 : decode prog_8_method_24_code 58 = .ok (.aload_n 0, 1) := by decide +kernel
theorem d_Re_part_59 : decode prog_8_method_24_code 59 = .ok (.invokevirtual 54, 3) := by decide +kernel
theorem d_Re_part_62 : decode prog_8_method_24_code 62 = .ok (.ireturn, 1) := by decide +kernel
theorem d_Re_part_63 : decode prog_8_method_24_code 63 = .ok (.aload_n 0, 1) := by decide +kernel
theorem d_Re_part_64 : decode prog_8_method_24_code 64 = .ok (.dup, 1) := by decide +kernel
theorem d_Re_part_65 : decode prog_8_method_24_code 65 = .ok (.getfield 32, 3) := by decide +kernel
theorem d_Re_part_68 : decode prog_8_method_24_code 68 = .ok (.iconst 1, 1) := by decide +kernel
theorem d_Re_part_69 : decode prog_8_method_24_code 69 = .ok (.iadd, 1) := by decide +kernel
theorem d_Re_part_70 : decode prog_8_method_24_code 70 = .ok (.putfield 32, 3) := by decide +kernel
theorem d_Re_part_73 : decode prog_8_method_24_code 73 = .ok (.aload_n 0, 1) := by decide +kernel
theorem d_Re_part_74 : decode prog_8_method_24_code 74 = .ok (.getfield 51, 3) := by decide +kernel
theorem d_Re_part_77 : decode prog_8_method_24_code 77 = .ok (.iconst 2, 1) := by decide +kernel
theorem d_Re_part_78 : decode prog_8_method_24_code 78 = .ok (.if_icmp .ne 33, 3) := by decide +kernel
theorem d_Re_part_81 : decode prog_8_method_24_code 81 = .ok (.aload_n 0, 1) := by decide +kernel
theorem d_Re_part_82 : decode prog_8_method_24_code 82 = .ok (.getfield 61, 3) := by decide +kernel
theorem d_Re_part_85 : decode prog_8_method_24_code 85 = .ok (.sipush 1000, 3) := by decide +kernel
theorem d_Re_part_88 : decode prog_8_method_24_code 88 = .ok (.if_icmp .le 8, 3) := by decide +kernel
theorem d_Re_part_91 : decode prog_8_method_24_code 91 = .ok (.aload_n 0, 1) := by decide +kernel
theorem d_Re_part_92 : decode prog_8_method_24_code 92 = .ok (.invokevirtual 54, 3) := by decide +kernel
theorem d_Re_part_95 : decode prog_8_method_24_code 95 = .ok (.ireturn, 1) := by decide +kernel
theorem d_Re_part_96 : decode prog_8_method_24_code 96 = .ok (.aload_n 0, 1) := by decide +kernel
theorem d_Re_part_97 : decode prog_8_method_24_code 97 = .ok (.iconst 1, 1) := by decide +kernel
theorem d_Re_part_98 : decode prog_8_method_24_code 98 = .ok (.aload_n 0, 1) := by decide +kernel
theorem d_Re_part_99 : decode prog_8_method_24_code 99 = .ok (.getfield 61, 3) := by decide +kernel
theorem d_Re_part_102 : decode prog_8_method_24_code 102 = .ok (.invokevirtual 132, 3) := by decide +kernel
theorem d_Re_part_105 : decode prog_8_method_24_code 105 = .ok (.aload_n 0, 1) := by decide +kernel
theorem d_Re_part_106 : decode prog_8_method_24_code 106 = .ok (.invokevirtual 38, 3) := by decide +kernel
theorem d_Re_part_109 : decode prog_8_method_24_code 109 = .ok (.iconst 1, 1) := by decide +kernel
theorem d_Re_part_110 : decode prog_8_method_24_code 110 = .ok (.ireturn, 1) := by decide +kernel
theorem d_Re_part_111 : decode prog_8_method_24_code 111 = .ok (.aload_n 0, 1) := by decide +kernel
theorem d_Re_part_112 : decode prog_8_method_24_code 112 = .ok (.getfield 25, 3) := by decide +kernel
theorem d_Re_part_115 : decode prog_8_method_24_code 115 = .ok (.ifCond .eq 10, 3) := by decide +kernel
theorem d_Re_part_118 : decode prog_8_method_24_code 118 = .ok (.aload_n 0, 1) := by decide +kernel
theorem d_Re_part_119 : decode prog_8_method_24_code 119 = .ok (.invokevirtual 155, 3) := by decide +kernel
theorem d_Re_part_122 : decode prog_8_method_24_code 122 = .ok (.goto 7, 3) := by decide +kernel
theorem d_Re_part_125 : decode prog_8_method_24_code 125 = .ok (.aload_n 0, 1) := by decide +kernel
theorem d_Re_part_126 : decode prog_8_method_24_code 126 = .ok (.invokevirtual 158, 3) := by decide +kernel
theorem d_Re_part_129 : decode prog_8_method_24_code 129 = .ok (.ireturn, 1) := by decide +kernel
def w_Re_part {d : Nat} (hd : 2 ≤ d) := (show SS ("DebtDoors$Reader", prog_8_method_24_code, 2) (some .boolean) d 0 0 0 0 _ from (sS (p1 := 49) (sIf (pn := 49) (tt := 9) (xC (rNot (rJ1 (tgt := 49) k_eq (rV p_Re_isSign (Nat.le_trans (Nat.le_of_ble_eq_true rfl) hd) lv_Re_48 (rAi (rAr rA0 (rAn 0 d_Re_part_0 rfl)) (rB d_Re_part_1 rfl)) (by decide) d_Re_part_3) d_Re_part_6 (by decide)))) (sS (p1 := 20) (sIf (pn := 20) (tt := 15) (xC (rNot (rJ2 (tgt := 20) j_lt (rIn 1 d_Re_part_9 rfl) (rB d_Re_part_10 rfl) d_Re_part_12 (by decide)))) (sRz (xV lv_Re_54 (xA (rAr rA0 (rAn 0 d_Re_part_15 rfl))) (by decide) d_Re_part_16) d_Re_part_19 rfl)) (sS (p1 := 24) (sV (xVv lv_Re_38 (xA (rAr rA0 (rAn 0 d_Re_part_20 rfl))) (by decide) d_Re_part_21)) (sRz (xTb (xAnd (mm := 34) (xNot (xJ1 (tgt := 47) k_eq (xV lv_Re_100 (xA (rAi (rAr rA0 (rAn 0 d_Re_part_24 rfl)) (r2 o_add (rIn 1 d_Re_part_25 rfl) (rI d_Re_part_26 rfl) d_Re_part_27))) (by decide) d_Re_part_28) d_Re_part_31 (by decide))) (xNot (xJ1 (tgt := 47) k_eq (xV lv_Re_146 (xA (rAi (rAr rA0 (rAn 0 d_Re_part_34 rfl)) (rB d_Re_part_35 rfl))) (by decide) d_Re_part_37) d_Re_part_40 (by decide)))) (rGoE (p2 := 48) (rI d_Re_part_43 rfl) d_Re_part_44 (by decide)) (rI d_Re_part_47 rfl)) d_Re_part_48 rfl)))) (sS (p1 := 63) (sIf (pn := 63) (tt := 58) (xC (rNot (rJ2 (tgt := 63) j_lt (rF 6 fl_Re_32 nk_6_6 (rAn 0 d_Re_part_49 rfl) d_Re_part_50 rfl) (rB d_Re_part_53 rfl) d_Re_part_55 (by decide)))) (sRz (xV lv_Re_54 (xA (rAr rA0 (rAn 0 d_Re_part_58 rfl))) (by decide) d_Re_part_59) d_Re_part_62 rfl)) (sS (p1 := 73) (sPo 6 o_add fl_Re_32 fp_6_6 nk_6_6 (rAn 0 d_Re_part_63 rfl) d_Re_part_64 d_Re_part_65 (rI d_Re_part_68 rfl) d_Re_part_69 d_Re_part_70 rfl) (sS (p1 := 111) (sIf (pn := 111) (tt := 81) (xC (rNot (rJ2 (tgt := 111) j_ne (rF 7 fl_Re_51 nk_6_7 (rAn 0 d_Re_part_73 rfl) d_Re_part_74 rfl) (rI d_Re_part_77 rfl) d_Re_part_78 (by decide)))) (sS (p1 := 96) (sIf (pn := 96) (tt := 91) (xC (rNot (rJ2 (tgt := 96) j_le (rF 10 fl_Re_61 nk_6_10 (rAn 0 d_Re_part_81 rfl) d_Re_part_82 rfl) (rSi d_Re_part_85 rfl) d_Re_part_88 (by decide)))) (sRz (xV lv_Re_54 (xA (rAr rA0 (rAn 0 d_Re_part_91 rfl))) (by decide) d_Re_part_92) d_Re_part_95 rfl)) (sS (p1 := 105) (sV (xVv lv_Re_132 (xA (rAi (rAi (rAr rA0 (rAn 0 d_Re_part_96 rfl)) (rI d_Re_part_97 rfl)) (rF 10 fl_Re_61 nk_6_10 (rAn 0 d_Re_part_98 rfl) d_Re_part_99 rfl))) (by decide) d_Re_part_102)) (sS (p1 := 109) (sV (xVv lv_Re_38 (xA (rAr rA0 (rAn 0 d_Re_part_105 rfl))) (by decide) d_Re_part_106)) (sRz (xE (rI d_Re_part_109 rfl)) d_Re_part_110 rfl))))) (sRz (xT2 (xC (rNot (rJ1 (tgt := 125) k_eq (rF 4 fl_Re_25 nk_6_4 (rAn 0 d_Re_part_111 rfl) d_Re_part_112 rfl) d_Re_part_115 (by decide)))) (xGoE (p2 := 129) (xV lv_Re_155 (xA (rAr rA0 (rAn 0 d_Re_part_118 rfl))) (by decide) d_Re_part_119) d_Re_part_122 (by decide)) (xV lv_Re_158 (xA (rAr rA0 (rAn 0 d_Re_part_125 rfl))) (by decide) d_Re_part_126)) d_Re_part_129 rfl))))))
def y_Re_term : zMt := (⟨"DebtDoors$Reader", "term", "(I)Z"⟩, prog_8_method_23_code, 4, some .boolean)
theorem m_Re_term : Cond.instanceMethod y_Re_term.1 ∈ zTb ∧ Cond.selects y_Re_term.1.cls y_Re_term.1 y_Re_term.1 ∈ zTb ∧ Cond.initialized y_Re_term.1.cls ∈ zTb ∧ Cond.code y_Re_term.1 y_Re_term.2.1 y_Re_term.2.2.1 y_Re_term.2.2.2 ∈ zTb ∧ (y_Re_term.1.cls ≠ "java/lang/invoke/MethodHandle" ∧ y_Re_term.1.cls ≠ "java/lang/invoke/VarHandle" ∧ (parseMethodDescriptor y_Re_term.1.desc).map (fun d => d.parameters.length) = some 1) ∧ y_Re_term.2.2.1 ≤ 20 :=
  ⟨(zTb_in 828 (by decide +kernel) (by decide +kernel)), (List.mem_filter.mpr ⟨List.mem_append_left _ (by decide +kernel), by decide +kernel⟩), (zTb_in 143 (by decide +kernel) (by decide +kernel)), (zTb_in 829 (by decide +kernel) (by decide +kernel)), by decide +kernel, by decide +kernel⟩
theorem lv_Re_149 : zLv "DebtDoors$Reader" 149 y_Re_term 1 6 := ⟨⟨(zTb_in 826 (by decide +kernel) (by decide +kernel)), m_Re_term.1, m_Re_term.2.1, m_Re_term.2.2⟩, _, rfl, rfl⟩
theorem d_Re_sum_0 : decode prog_8_method_22_code 0 = .ok (.aload_n 0, 1) := by decide +kernel
theorem d_Re_sum_1 : decode prog_8_method_22_code 1 = .ok (.iload_n 1, 1) := by decide +kernel
theorem d_Re_sum_2 : decode prog_8_method_22_code 2 = .ok (.invokevirtual 149, 3) := by decide +kernel
theorem d_Re_sum_5 : decode prog_8_method_22_code 5 = .ok (.ifCond .ne 5, 3) := by decide +kernel
theorem d_Re_sum_8 : decode prog_8_method_22_code 8 = .ok (.iconst 0, 1) := by decide +kernel
theorem d_Re_sum_9 : decode prog_8_method_22_code 9 = .ok (.ireturn, 1) := by decide +kernel
theorem d_Re_sum_10 : decode prog_8_method_22_code 10 = .ok (.iconst 0, 1) := by decide +kernel
theorem d_Re_sum_11 : decode prog_8_method_22_code 11 = .ok (.istore_n 2, 1) := by decide +kernel
theorem d_Re_sum_12 : decode prog_8_method_22_code 12 = .ok (.iload_n 2, 1) := by decide +kernel
theorem d_Re_sum_13 : decode prog_8_method_22_code 13 = .ok (.sipush 400, 3) := by decide +kernel
theorem d_Re_sum_16 : decode prog_8_method_22_code 16 = .ok (.if_icmp .ge 64, 3) := by decide +kernel
theorem d_Re_sum_19 : decode prog_8_method_22_code 19 = .ok (.aload_n 0, 1) := by decide +kernel
theorem d_Re_sum_20 : decode prog_8_method_22_code 20 = .ok (.bipush 43, 2) := by decide +kernel
theorem d_Re_sum_22 : decode prog_8_method_22_code 22 = .ok (.invokevirtual 48, 3) := by decide +kernel
theorem d_Re_sum_25 : decode prog_8_method_22_code 25 = .ok (.ifCond .ne 12, 3) := by decide +kernel
theorem d_Re_sum_28 : decode prog_8_method_22_code 28 = .ok (.aload_n 0, 1) := by decide +kernel
theorem d_Re_sum_29 : decode prog_8_method_22_code 29 = .ok (.bipush 45, 2) := by decide +kernel
theorem d_Re_sum_31 : decode prog_8_method_22_code 31 = .ok (.invokevirtual 48, 3) := by decide +kernel
theorem d_Re_sum_34 : decode prog_8_method_22_code 34 = .ok (.ifCond .eq 46, 3) := by decide +kernel
theorem d_Re_sum_37 : decode prog_8_method_22_code 37 = .ok (.aload_n 0, 1) := by decide +kernel
theorem d_Re_sum_38 : decode prog_8_method_22_code 38 = .ok (.bipush 43, 2) := by decide +kernel
theorem d_Re_sum_40 : decode prog_8_method_22_code 40 = .ok (.invokevirtual 48, 3) := by decide +kernel
theorem d_Re_sum_43 : decode prog_8_method_22_code 43 = .ok (.ifCond .eq 8, 3) := by decide +kernel
theorem d_Re_sum_46 : decode prog_8_method_22_code 46 = .ok (.bipush 6, 2) := by decide +kernel
theorem d_Re_sum_48 : decode prog_8_method_22_code 48 = .ok (.goto 5, 3) := by decide +kernel
theorem d_Re_sum_51 : decode prog_8_method_22_code 51 = .ok (.bipush 7, 2) := by decide +kernel
theorem d_Re_sum_53 : decode prog_8_method_22_code 53 = .ok (.istore_n 3, 1) := by decide +kernel
theorem d_Re_sum_54 : decode prog_8_method_22_code 54 = .ok (.aload_n 0, 1) := by decide +kernel
theorem d_Re_sum_55 : decode prog_8_method_22_code 55 = .ok (.invokevirtual 38, 3) := by decide +kernel
theorem d_Re_sum_58 : decode prog_8_method_22_code 58 = .ok (.aload_n 0, 1) := by decide +kernel
theorem d_Re_sum_59 : decode prog_8_method_22_code 59 = .ok (.iload_n 1, 1) := by decide +kernel
theorem d_Re_sum_60 : decode prog_8_method_22_code 60 = .ok (.invokevirtual 149, 3) := by decide +kernel
theorem d_Re_sum_63 : decode prog_8_method_22_code 63 = .ok (.ifCond .ne 5, 3) := by decide +kernel
theorem d_Re_sum_66 : decode prog_8_method_22_code 66 = .ok (.iconst 0, 1) := by decide +kernel
theorem d_Re_sum_67 : decode prog_8_method_22_code 67 = .ok (.ireturn, 1) := by decide +kernel
theorem d_Re_sum_68 : decode prog_8_method_22_code 68 = .ok (.aload_n 0, 1) := by decide +kernel
theorem d_Re_sum_69 : decode prog_8_method_22_code 69 = .ok (.iload_n 3, 1) := by decide +kernel
theorem d_Re_sum_70 : decode prog_8_method_22_code 70 = .ok (.iconst 0, 1) := by decide +kernel
theorem d_Re_sum_71 : decode prog_8_method_22_code 71 = .ok (.invokevirtual 132, 3) := by decide +kernel
theorem d_Re_sum_74 : decode prog_8_method_22_code 74 = .ok (.iinc 2 1, 3) := by decide +kernel
theorem d_Re_sum_77 : decode prog_8_method_22_code 77 = .ok (.goto (-65), 3) := by decide +kernel
theorem d_Re_sum_80 : decode prog_8_method_22_code 80 = .ok (.iconst 1, 1) := by decide +kernel
theorem d_Re_sum_81 : decode prog_8_method_22_code 81 = .ok (.ireturn, 1) := by decide +kernel
def w_Re_sum {d : Nat} (hd : 2 ≤ d) := (show SS ("DebtDoors$Reader", prog_8_method_22_code, 4) (some .boolean) d 0 0 0 0 _ from (sS (p1 := 10) (sIf (pn := 10) (tt := 8) (xNot (xJ1 (tgt := 10) k_ne (xV lv_Re_149 (xA (rAi (rAr rA0 (rAn 0 d_Re_sum_0 rfl)) (rIn 1 d_Re_sum_1 rfl))) (by decide) d_Re_sum_2) d_Re_sum_5 (by decide))) (sRz (xE (rI d_Re_sum_8 rfl)) d_Re_sum_9 rfl)) (sS (p1 := 80) (sS (p1 := 12) (sIn 2 (xE (rI d_Re_sum_10 rfl)) d_Re_sum_11 rfl (by decide)) (sLp (ps := 74) (tt := 37) (pn := 80) (p1 := 0) (p2 := 0) (xC (rAnd (mm := 19) (rNot (rJ2 (tgt := 80) j_ge (rIn 2 d_Re_sum_12 rfl) (rSi d_Re_sum_13 rfl) d_Re_sum_16 (by decide))) (rOr (mm := 28) (rJ1 (tgt := 37) k_ne (rV p_Re_isSign (Nat.le_trans (Nat.le_of_ble_eq_true rfl) hd) lv_Re_48 (rAi (rAr rA0 (rAn 0 d_Re_sum_19 rfl)) (rB d_Re_sum_20 rfl)) (by decide) d_Re_sum_22) d_Re_sum_25 (by decide)) (rNot (rJ1 (tgt := 80) k_eq (rV p_Re_isSign (Nat.le_trans (Nat.le_of_ble_eq_true rfl) hd) lv_Re_48 (rAi (rAr rA0 (rAn 0 d_Re_sum_28 rfl)) (rB d_Re_sum_29 rfl)) (by decide) d_Re_sum_31) d_Re_sum_34 (by decide)))))) (sS (p1 := 54) (sIn 3 (xE (rT2 (rNot (rJ1 (tgt := 51) k_eq (rV p_Re_isSign (Nat.le_trans (Nat.le_of_ble_eq_true rfl) hd) lv_Re_48 (rAi (rAr rA0 (rAn 0 d_Re_sum_37 rfl)) (rB d_Re_sum_38 rfl)) (by decide) d_Re_sum_40) d_Re_sum_43 (by decide))) (rGoE (p2 := 53) (rB d_Re_sum_46 rfl) d_Re_sum_48 (by decide)) (rB d_Re_sum_51 rfl))) d_Re_sum_53 rfl (by decide)) (sS (p1 := 58) (sV (xVv lv_Re_38 (xA (rAr rA0 (rAn 0 d_Re_sum_54 rfl))) (by decide) d_Re_sum_55)) (sS (p1 := 68) (sIf (pn := 68) (tt := 66) (xNot (xJ1 (tgt := 68) k_ne (xV lv_Re_149 (xA (rAi (rAr rA0 (rAn 0 d_Re_sum_58 rfl)) (rIn 1 d_Re_sum_59 rfl))) (by decide) d_Re_sum_60) d_Re_sum_63 (by decide))) (sRz (xE (rI d_Re_sum_66 rfl)) d_Re_sum_67 rfl)) (sV (xVv lv_Re_132 (xA (rAi (rAi (rAr rA0 (rAn 0 d_Re_sum_68 rfl)) (rIn 3 d_Re_sum_69 rfl)) (rI d_Re_sum_70 rfl))) (by decide) d_Re_sum_71))))) (sGo (pn := 12) (sInc d_Re_sum_74 (by decide)) d_Re_sum_77 (by decide)))) (sRz (xE (rI d_Re_sum_80 rfl)) d_Re_sum_81 rfl))))
theorem q_Re_part {d ds : Nat} (hd : 12 ≤ d) (hds : ds + 1 ≤ d) {B : Int → Int} {n : Nat} {o : Bool} {S : Option Pr} {b : Int} (hb : 0 ≤ b ∧ b ≤ 8) (hB : okB B n) (hn : S = none → b = 8) (hs : ∀ s, S = some s → b < 8 ∧ CT ds y_Re_sum [vi (b + 1)] B n o s) : CT d y_Re_part [vi b] B n o (pPart o (cT B n) (vT B n) S) := by
  intro μ t l w h hl ht hw
  have hsg := RD_sign (s := 91) h.1 (by decide) (by decide) (by decide)
  have hnum := RD_num hB h.1
  have hnt := NT_ps (fun i hi => (hB.2 i hi).1) t
  have hB1 := hB.1
  have hp := RD_p h.1
  refine zSp.ss [vr 321, vi b] rfl (w_Re_part (Nat.le_trans (by decide) hd)) rfl rfl ?_
  (try simp only [zit_e, Bool.and_eq_true, Bool.or_eq_true, Bool.not_eq_true', Bool.and_eq_false_iff, Bool.or_eq_false_iff, Bool.not_eq_false', zbe, zdt, zdf, zb2_p, zbp_0, zbp_1, zbp_inj, zbp_01, Bool.true_eq_false, Bool.false_eq_true, true_and, and_true, Decidable.not_not, Classical.not_not, implies_true, List.nil_append, List.cons_append, List.append_assoc, Option.some.injEq, Sum.inl.injEq, zSw_c, zSw_n]); (try simp only [zit_e, Bool.and_eq_true, Bool.or_eq_true, Bool.not_eq_true', Bool.and_eq_false_iff, Bool.or_eq_false_iff, Bool.not_eq_false', zbe, zdt, zdf, zb2_p, zbp_0, zbp_1, zbp_inj, zbp_01, Bool.true_eq_false, Bool.false_eq_true, true_and, and_true, Decidable.not_not, Classical.not_not, implies_true, List.nil_append, List.cons_append, List.append_assoc, Option.some.injEq, Sum.inl.injEq, zSw_c, zSw_n, zc_321, f_Re_isSign, g_Re_isSign]); (try simp only [zi_cs, zi_c0, zii_cs, zii_c0, zl_cs, zl_c0, zll_cs, zll_c0, zr_cs, zr_c0, zrr_cs, zrr_c0, zxs_cs, zxs_c0, zxx_cs, zxx_c0, zfree_c0, zfree_c1, zfree_cs, zfree_cz, zlong_i, zlong_r, zlong_x, zset_0, zset_s, true_and, and_true, Option.some.injEq, Sum.inl.injEq, Sum.inr.injEq, zb2_p, zbp_0, zbp_1, zbp_inj, zbp_01, Nat.zero_add, Nat.reduceAdd, implies_true, List.nil_append, List.cons_append, List.append_assoc, Int.not_lt, Int.not_le, Decidable.not_not, Int.zero_add, Int.reduceLE, Int.reduceLT, Int.reduceEq, Int.reduceNe, Int.reduceAdd, Int.reduceSub, Int.reduceMul, Int.reduceNeg, Int.reduceToNat, Nat.reduceMul, Nat.reduceLT, Nat.reduceEqDiff, and_self, ite_true, ite_false, zx1, zx2, zRecv, List.length_cons, List.length_nil, ne_eq, not_true_eq_false, not_false_eq_true, true_or, or_true, or_false, false_or, and_false, false_and, zf01, zf10, reduceCtorEq, zSw_c, zSw_n, zm_r, zit_T, zit_F, false_implies, true_implies, zc_321, f_Re_isSign, g_Re_isSign])
  rw [h.2.1, h.2.2.2.1]
  refine ⟨fun q => by have := hnum.2.2; omega, ?_⟩
  refine zif (fun e => ?_) (fun e => ?_)
  · rw [hsg] at e
    have e9 : cT B n t = 191 := by omega
    have htn : t < n := zNlt (c := cT B n) (fun u hu => cT_N u hu) (by rw [e9]; decide)
    have hmo := NT_mono (c := cT B n) (t := t) 1
    cases S with
    | none =>
      have hpp : pPart o (cT B n) (vT B n) none t l w = (t, none) := by
        unfold pPart
        rw [if_pos e9]
      rw [if_pos (by have := hn rfl; omega), hpp]
      exact fl_w (by omega) h (fun μ' a b => ⟨0, rfl, Or.inl rfl, RP_n rfl a b⟩)
    | some s =>
      obtain ⟨hb8, hc⟩ := hs s rfl
      have hpp : pPart o (cT B n) (vT B n) (some s) t l w = (match s (t + 1) l w with
        | (t1, none) => (t1, none)
        | (t1, some r) => if cT B n t1 = 193 then (t1 + 1, some r) else (t1, none)) := by
        unfold pPart
        rw [if_pos e9]
        rfl
      rw [if_neg (by omega)]
      refine nx_w (by omega) hB h (fun μ1 a1 a2 a3 => ⟨rfl, zI_s (by omega) (by omega), zCw.use (hc μ1 (t + 1) l w a1 hl htn (by omega)) hds (fun r μ2 e2 => ?_)⟩)
      rcases hs1 : s (t + 1) l w with ⟨t1, _ | ⟨l1, m1, c1⟩⟩
      · obtain ⟨rfl, f1, f2⟩ := e2.1 _ hs1
        rw [hs1] at hpp
        rw [hpp]
        exact ⟨0, rfl, RP_n zbp_F f1 (a2.tr f2)⟩
      · obtain ⟨rfl, f1, f2, f3, f4⟩ := e2.2 _ _ _ _ hs1
        rw [hs1] at hpp
        dsimp only at hpp
        refine ⟨1, rfl, ?_⟩
        rw [if_pos (by decide)]
        refine ts_w (by omega) hB f1 ⟨by decide, by decide, by decide⟩ (fun c2 μ3 g1 g2 g3 => ⟨1, rfl, by simp, ?_⟩) (fun c2 μ3 g1 g2 => ⟨0, rfl, by simp, ?_⟩)
        · rw [hpp, if_pos (by omega)]
          exact RP_s (zbt (by decide)) g1 (by rw [g3]; exact f2) (fun i hi => by rw [g3, f3 i hi, a3]) ((a2.tr f4).tr g2)
        · rw [hpp, if_neg (by omega)]
          exact RP_n (zbf (by decide)) g1 ((a2.tr f4).tr g2)
  rw [hsg] at e
  refine zif (fun e2 => ?_) (fun e2 => ?_)
  · have hpp : pPart o (cT B n) (vT B n) S t l w = (t, none) := by
      unfold pPart
      rw [if_neg (by omega), if_pos (by omega)]
    rw [hpp]
    exact fl_w (by omega) h (fun μ' a b => ⟨0, rfl, Or.inl rfl, RP_n rfl a b⟩)
  obtain ⟨k1, k2, k3⟩ := PSt_parts h
  refine ⟨zI_s (by omega) (by omega), ?_⟩
  generalize zm μ 321 6 ((l : Int) + 1) = μ0 at *
  refine zif (fun e3 => ?_) (fun e3 => ?_)
  · have c5 := hnum.1.mp e3
    have h10 := hnum.2.1 c5
    have hv := vT_in (B := B) (n := n) (t := t)
    refine zif (fun e4 => ?_) (fun e4 => ?_)
    · have hpp : pPart o (cT B n) (vT B n) S t l w = (t, none) := by
        unfold pPart
        rw [if_neg (by omega), if_neg (by omega), if_pos c5, if_neg (by omega)]
      rw [hpp]
      exact fl_w (by omega) k1 (fun μ' a b => ⟨0, rfl, Or.inl rfl, RP_n rfl a (k2.tr b)⟩)
    · have hpp : pPart o (cT B n) (vT B n) S t l w = (t + 1, some (l + 1, fun _ => some (vT B n t), [4096 + vT B n t])) := by
        unfold pPart
        rw [if_neg (by omega), if_neg (by omega), if_pos c5, if_pos (by omega)]
      rw [hpp, h10]
      exact wr_w (by omega) k1 (by omega) (by decide) (by omega) (fun μ1 a1 a2 a3 a4 => ⟨rfl, nx_w (by omega) hB a1 (fun μ2 b1 b2 b3 => ⟨rfl, RP_s rfl b1 (Seg1 (by rw [b3, a3]; omega)) (fun i hi => by rw [b3, a4 i hi, k3]) ((k2.tr a2).tr b2)⟩)⟩)
  · have c5 : ¬ cT B n t = 50 := fun q => e3 (hnum.1.mpr q)
    have ht : FR μ μ0 ∧ ∀ i : Int, i < w → μ0 323 i = μ 323 i := ⟨k2, fun i _ => by rw [k3]⟩
    have h01 : ∀ {R : PrR} {r : Option zV} {μ2 : zMem}, RP B n o R w μ0 r μ2 → ∃ x, r = some (vi x) ∧ (x = 0 ∨ x = 1) ∧ RP B n o R w μ (some (vi x)) μ2 := by
      intro R r μ2 hr
      have hr2 := hr.tr ht.1 ht.2
      rcases hR : R with ⟨t1, _ | ⟨l1, m1, c1⟩⟩
      · obtain ⟨rfl, -⟩ := hr.1 _ hR
        exact ⟨0, rfl, Or.inl rfl, by rw [← hR]; exact hr2⟩
      · obtain ⟨rfl, -⟩ := hr.2 _ _ _ _ hR
        exact ⟨1, rfl, Or.inr rfl, by rw [← hR]; exact hr2⟩
    cases o with
    | true =>
      rw [if_pos (by decide)]
      refine zCw.use (q_Re_orderWord (d := 10) (by decide) hB k1 (by omega)) (by omega) (fun r μ2 e5 => h01 ?_)
      unfold pPart
      rw [if_neg (by omega), if_neg (by omega), if_neg c5, if_pos rfl]
      exact e5
    | false =>
      rw [if_neg (by decide)]
      refine zCw.use (q_Re_lawWord (d := 10) (by decide) hB k1 (by omega)) (by omega) (fun r μ2 e5 => h01 ?_)
      unfold pPart
      rw [if_neg (by omega), if_neg (by omega), if_neg c5, if_neg (by decide)]
      exact e5

