/-! the reader's tests without "and", "or" -/
set_option maxRecDepth 20000 in
theorem q_Re_plain {d ds dt : Nat} (hd : 13 ≤ d) (hds : ds + 1 ≤ d) (hdt : dt + 1 ≤ d) {B : Int → Int} {n : Nat} {o : Bool} {S : Pr} {T : Option Pr} {b : Int} (hb : 0 ≤ b ∧ b ≤ 8) (hB : okB B n) (hGS : PG (cT B n) n S) (hGT : ∀ q, T = some q → PG (cT B n) n q) (hS : CT ds y_Re_sum [vi b] B n o S) (hn : T = none → b = 8) (hT : ∀ q, T = some q → b < 8 ∧ CT dt y_Re_test [vi (b + 1)] B n o q) : CT d y_Re_plain [vi b] B n o (pPlain (cT B n) S T) := by
  intro μ t l w h hl ht hw
  have hB1 := hB.1
  refine zSp.ss [vr 321, vi b, vx 0, vx 0] rfl (w_Re_plain (Nat.le_trans (by decide) hd)) rfl rfl ?_
  (try simp only [zit_e, Bool.and_eq_true, Bool.or_eq_true, Bool.not_eq_true', Bool.and_eq_false_iff, Bool.or_eq_false_iff, Bool.not_eq_false', zbe, zdt, zdf, zb2_p, zbp_0, zbp_1, zbp_inj, zbp_01, Bool.true_eq_false, Bool.false_eq_true, true_and, and_true, Decidable.not_not, Classical.not_not, implies_true, List.nil_append, List.cons_append, List.append_assoc, Option.some.injEq, Sum.inl.injEq, zSw_c, zSw_n]); (try simp only [zit_e, Bool.and_eq_true, Bool.or_eq_true, Bool.not_eq_true', Bool.and_eq_false_iff, Bool.or_eq_false_iff, Bool.not_eq_false', zbe, zdt, zdf, zb2_p, zbp_0, zbp_1, zbp_inj, zbp_01, Bool.true_eq_false, Bool.false_eq_true, true_and, and_true, Decidable.not_not, Classical.not_not, implies_true, List.nil_append, List.cons_append, List.append_assoc, Option.some.injEq, Sum.inl.injEq, zSw_c, zSw_n, zc_321, f_Re_isSign, g_Re_isSign, f_Re_isWord, g_Re_isWord]); (try simp only [zi_cs, zi_c0, zii_cs, zii_c0, zl_cs, zl_c0, zll_cs, zll_c0, zr_cs, zr_c0, zrr_cs, zrr_c0, zxs_cs, zxs_c0, zxx_cs, zxx_c0, zfree_c0, zfree_c1, zfree_cs, zfree_cz, zlong_i, zlong_r, zlong_x, zset_0, zset_s, true_and, and_true, Option.some.injEq, Sum.inl.injEq, Sum.inr.injEq, zb2_p, zbp_0, zbp_1, zbp_inj, zbp_01, Nat.zero_add, Nat.reduceAdd, implies_true, List.nil_append, List.cons_append, List.append_assoc, Int.not_lt, Int.not_le, Decidable.not_not, Int.zero_add, Int.reduceLE, Int.reduceLT, Int.reduceEq, Int.reduceNe, Int.reduceAdd, Int.reduceSub, Int.reduceMul, Int.reduceNeg, Int.reduceToNat, Nat.reduceMul, Nat.reduceLT, Nat.reduceEqDiff, and_self, ite_true, ite_false, zx1, zx2, zRecv, List.length_cons, List.length_nil, ne_eq, not_true_eq_false, not_false_eq_true, true_or, or_true, or_false, false_or, and_false, false_and, zf01, zf10, reduceCtorEq, zSw_c, zSw_n, zm_r, zit_T, zit_F, false_implies, true_implies, zc_321, f_Re_isSign, g_Re_isSign, f_Re_isWord, g_Re_isWord])
  have hnN := nNot_N (c := cT B n) (fun u hu => cT_N u hu) 400 t ht
  have hnT := nNot_NT (c := cT B n) 400 t
  generalize hR : pPlain (cT B n) S T t l w = R
  unfold pPlain at hR
  refine zLoop.up 400 (fun j ρ μ2 => ∃ tu : Int, ρ = [vr 321, vi b, vi tu, vi j] ∧ (tu = 0 ∨ tu = 1) ∧ (tu = 1 ↔ j % 2 = 1) ∧ PSt B n o (t + j) l w μ2 ∧ FR μ μ2 ∧ μ2 323 = μ 323 ∧ nNot (cT B n) 400 t = j + nNot (cT B n) (400 - j) (t + j)) ⟨0, rfl, Or.inl rfl, by decide, h, FR.rf, rfl, by simp⟩ ?_
  rintro j ρ μ2 hj ⟨tu, rfl, htu, htj, hP, hF, h3, hN⟩
  have hwd := RD_word hB hP.1 (show 2 ≤ 10 ∧ 10 < 13 by decide)
  have hk : kwF 10 (cT B n (t + j)) = if cT B n (t + j) = 8 then 0 else -1 := rfl
  have hpp := RD_p hP.1
  have hnum := RD_num hB hP.1
  have s1 := RD_sign (s := 40) hP.1 (by decide) (by decide) (by decide)
  (try simp only [zit_e, Bool.and_eq_true, Bool.or_eq_true, Bool.not_eq_true', Bool.and_eq_false_iff, Bool.or_eq_false_iff, Bool.not_eq_false', zbe, zdt, zdf, zb2_p, zbp_0, zbp_1, zbp_inj, zbp_01, Bool.true_eq_false, Bool.false_eq_true, true_and, and_true, Decidable.not_not, Classical.not_not, implies_true, List.nil_append, List.cons_append, List.append_assoc, Option.some.injEq, Sum.inl.injEq, zSw_c, zSw_n]); (try simp only [zit_e, Bool.and_eq_true, Bool.or_eq_true, Bool.not_eq_true', Bool.and_eq_false_iff, Bool.or_eq_false_iff, Bool.not_eq_false', zbe, zdt, zdf, zb2_p, zbp_0, zbp_1, zbp_inj, zbp_01, Bool.true_eq_false, Bool.false_eq_true, true_and, and_true, Decidable.not_not, Classical.not_not, implies_true, List.nil_append, List.cons_append, List.append_assoc, Option.some.injEq, Sum.inl.injEq, zSw_c, zSw_n, zc_321, f_Re_isSign, g_Re_isSign, f_Re_isWord, g_Re_isWord]); (try simp only [zi_cs, zi_c0, zii_cs, zii_c0, zl_cs, zl_c0, zll_cs, zll_c0, zr_cs, zr_c0, zrr_cs, zrr_c0, zxs_cs, zxs_c0, zxx_cs, zxx_c0, zfree_c0, zfree_c1, zfree_cs, zfree_cz, zlong_i, zlong_r, zlong_x, zset_0, zset_s, true_and, and_true, Option.some.injEq, Sum.inl.injEq, Sum.inr.injEq, zb2_p, zbp_0, zbp_1, zbp_inj, zbp_01, Nat.zero_add, Nat.reduceAdd, implies_true, List.nil_append, List.cons_append, List.append_assoc, Int.not_lt, Int.not_le, Decidable.not_not, Int.zero_add, Int.reduceLE, Int.reduceLT, Int.reduceEq, Int.reduceNe, Int.reduceAdd, Int.reduceSub, Int.reduceMul, Int.reduceNeg, Int.reduceToNat, Nat.reduceMul, Nat.reduceLT, Nat.reduceEqDiff, and_self, ite_true, ite_false, zx1, zx2, zRecv, List.length_cons, List.length_nil, ne_eq, not_true_eq_false, not_false_eq_true, true_or, or_true, or_false, false_or, and_false, false_and, zf01, zf10, reduceCtorEq, zSw_c, zSw_n, zm_r, zit_T, zit_F, false_implies, true_implies, zc_321, f_Re_isSign, g_Re_isSign, f_Re_isWord, g_Re_isWord])
  rw [hwd, hk]
  have hq8 : μ2 321 7 = 3 → 0 ≤ μ2 321 8 ∧ μ2 321 8 < 400 := fun q => by have := hnum.2.2; omega
  refine ⟨fun _ => ⟨by decide, fun q => by omega⟩, ?_⟩
  refine zif (fun c => ?_) (fun c => ?_)
  · have c8 : cT B n (t + j) = 8 := by
      apply Classical.byContradiction
      intro q
      rw [if_neg q] at c
      omega
    refine nx_w (by omega) hB hP (fun μ3 a1 a2 a3 => ⟨rfl, zI_s (by omega) (by omega), znx (by omega) ⟨zbp (tu = 0), rfl, ?_, ?_, a1, hF.tr a2, by rw [a3, h3], ?_⟩⟩)
    · rw [zbp_01]
      trivial
    · rw [zbp_1]
      omega
    · rw [hN, show 400 - j = (400 - (j + 1)) + 1 by omega, nNot, if_pos c8, show t + j + 1 = t + (j + 1) by omega]
      omega
  have hj0 : nNot (cT B n) (400 - j) (t + j) = 0 := by
    by_cases q : cT B n (t + j) = 8
    · rw [if_pos q] at c
      rw [show 400 - j = 0 by omega]
      rfl
    · cases 400 - j with
      | zero => rfl
      | succ f => rw [nNot, if_neg q]
  rw [hj0, Nat.add_zero] at hN
  rw [hN] at hR hnN hnT
  have hmo := NT_mono (c := cT B n) (t := t + j) 1
  have fin : ∀ {t1 l1 : Nat} {m1 : Mn} {c1 : List Int} {μ5 : zMem}, PSt B n o t1 l1 (w + c1.length) μ5 → Seg (μ5 323) w c1 → (∀ i : Int, i < w → μ5 323 i = μ 323 i) → FR μ μ5 → pPos (cT B n) S T (t + j) l w = (t1, some (l1, m1, c1)) → w + c1.length < 385 → if ¬ tu = 0 then zCw d y_Re_write [vr 321, vi 3, vi 0] μ5 (fun q μ2 => q = none ∧ RP B n o R w μ (some (vi 1)) μ2) else RP B n o R w μ (some (vi 1)) μ5 := by
    intro t1 l1 m1 c1 μ5 f1 f2 f3 f4 f5 f6
    rw [f5] at hR
    unfold pNeg at hR
    refine zif (fun q => ?_) (fun q => ?_)
    · rw [if_pos (htj.mp (by omega))] at hR
      refine wr_w (by omega) f1 f6 (by decide) (by decide) (fun μ6 b1 b2 b3 b4 => ⟨rfl, ?_⟩)
      rw [← hR]
      refine RP_s rfl (by rw [List.length_append]; exact b1) ?_ (fun i hi => by rw [b4 i (by omega), f3 i hi]) (f4.tr b2)
      rw [Seg_app]
      exact ⟨Seg_c f2 (fun i hi => by rw [b4 i (by omega)]), Seg1 (by rw [b3]; rfl)⟩
    · rw [if_neg (fun z => q (by have := htj.mpr z; omega))] at hR
      rw [← hR]
      exact RP_s rfl f1 f2 f3 f4
  have bad : ∀ {t1 : Nat} {μ5 : zMem} {x : Int}, x = 0 → μ5 321 3 = (ps B n t1 : Int) → FR μ μ5 → pPos (cT B n) S T (t + j) l w = (t1, none) → RP B n o R w μ (some (vi x)) μ5 := by
    intro t1 μ5 x f0 f1 f2 f3
    rw [f3] at hR
    unfold pNeg at hR
    have : R = (t1, none) := by
      rw [← hR]
      split <;> rfl
    rw [this]
    exact RP_n f0 f1 f2
  have hlo : ∀ i : Int, i < w → μ2 323 i = μ 323 i := fun i _ => by rw [h3]
  have hgp := PG_pos (c := cT B n) (fun u hu => cT_N u hu) hGS hGT (t + j) l w hl hnN
  refine ⟨hq8, ?_⟩
  refine zif (fun c2 => ?_) (fun c2 => ?_)
  · rw [s1] at c2
    have c9 : cT B n (t + j) = 140 := by omega
    have htn : t + j < n := zNlt (c := cT B n) (fun u hu => cT_N u hu) (by rw [c9]; decide)
    cases T with
    | none =>
      have hpp : pPos (cT B n) S none (t + j) l w = (t + j, none) := by
        unfold pPos
        rw [if_pos c9]
      rw [if_pos (by have := hn rfl; omega)]
      exact fl_w (by omega) hP (fun μ' a e => ⟨0, rfl, Or.inl rfl, bad rfl a (hF.tr e) hpp⟩)
    | some q =>
      obtain ⟨hb8, hc⟩ := hT q rfl
      have hpp : pPos (cT B n) S (some q) (t + j) l w = (match q (t + j + 1) l w with
        | (t1, none) => (t1, none)
        | (t1, some r) => if cT B n t1 = 141 then (t1 + 1, some r) else (t1, none)) := by
        unfold pPos
        rw [if_pos c9]
        rfl
      rw [if_neg (by omega)]
      refine nx_w (by omega) hB hP (fun μ3 a1 a2 a3 => ⟨rfl, zI_s (by omega) (by omega), zCw.use (hc μ3 (t + j + 1) l w a1 hl htn (by omega)) hdt (fun r μ4 e => ?_)⟩)
      rcases h1 : q (t + j + 1) l w with ⟨t1, _ | ⟨l1, m1, c1⟩⟩
      · obtain ⟨rfl, e1, e2⟩ := e.1 _ h1
        rw [h1] at hpp
        refine ⟨0, rfl, ?_⟩
        rw [if_pos rfl]
        exact bad rfl e1 ((hF.tr a2).tr e2) hpp
      obtain ⟨rfl, e1, e2, e3, e4⟩ := e.2 _ _ _ _ h1
      rw [h1] at hpp
      dsimp only at hpp
      refine ⟨1, rfl, ?_⟩
      rw [if_neg (by decide)]
      refine ts_w (by omega) hB e1 ⟨by decide, by decide, by decide⟩ (fun c3 μ5 b1 b2 b3 => ⟨1, rfl, ?_⟩) (fun c3 μ5 b1 b2 => ⟨0, rfl, ?_⟩)
      · rw [if_neg (by decide)]
        rw [if_pos (by omega)] at hpp
        have hg := hgp.2 _ _ _ _ hpp
        have h133 := NT_le133 hB (t1 + 1)
        exact fin b1 (by rw [b3]; exact e2) (fun i hi => by rw [b3, e3 i hi, a3, hlo i hi]) (((hF.tr a2).tr e4).tr b2) hpp (by omega)
      · rw [if_pos rfl]
        rw [if_neg (by omega)] at hpp
        exact bad rfl b1 (((hF.tr a2).tr e4).tr b2) hpp
  · rw [s1] at c2
    have hpp : pPos (cT B n) S T (t + j) l w = (match S (t + j) l w with
      | (t1, none) => (t1, none)
      | (t1, some (l1, m1, c1)) =>
        if oCmp (cT B n t1) = 0 then (t1, none)
        else match S (t1 + 1) l1 (w + c1.length) with
          | (t2, none) => (t2, none)
          | (t2, some (l2, m2, c2)) => (t2, some (l2, mOp (oCmp (cT B n t1)) m1 m2, c1 ++ c2 ++ [oCmp (cT B n t1) * 4096]))) := by
      unfold pPos
      rw [if_neg (by omega)]
      rfl
    refine zCw.use (hS μ2 (t + j) l w hP hl hnN (by omega)) hds (fun r μ4 e => ?_)
    have hg1 := hGS (t + j) l w hl hnN
    rcases h1 : S (t + j) l w with ⟨t1, _ | ⟨l1, m1, c1⟩⟩
    · obtain ⟨rfl, e1, e2⟩ := e.1 _ h1
      rw [h1] at hpp
      refine ⟨0, rfl, ?_⟩
      rw [if_pos rfl]
      exact bad rfl e1 (hF.tr e2) hpp
    obtain ⟨rfl, e1, e2, e3, e4⟩ := e.2 _ _ _ _ h1
    have hg2 := hg1.2 _ _ _ _ h1
    rw [h1] at hpp
    dsimp only at hpp
    have hpp4 := RD_p e1.1
    have hnum4 := RD_num hB e1.1
    have hq84 : μ4 321 7 = 3 → 0 ≤ μ4 321 8 ∧ μ4 321 8 < 400 := fun q => by have := hnum4.2.2; omega
    have s60 := RD_sign (s := 60) e1.1 (by decide) (by decide) (by decide)
    have s62 := RD_sign (s := 62) e1.1 (by decide) (by decide) (by decide)
    have s61 := RD_sign (s := 61) e1.1 (by decide) (by decide) (by decide)
    refine ⟨1, rfl, ?_⟩
    rw [if_neg (by decide)]
    refine ⟨⟨hq84, fun _ => hq84⟩, fun _ => hq84, ?_⟩
    refine zif (fun c3 => ?_) (fun c3 => ?_)
    · have ho : oCmp (cT B n t1) = 0 := by
        simp only [s60, s62, s61] at c3
        unfold zit at c3
        unfold oCmp
        repeat' split
        all_goals (repeat' split at c3)
        all_goals omega
      rw [if_pos ho] at hpp
      exact fl_w (by omega) e1 (fun μ' a g => ⟨0, rfl, Or.inl rfl, bad rfl a ((hF.tr e4).tr g) hpp⟩)
    · have hov : zit (μ4 321 7 = 3 ∧ μ4 322 (μ4 321 8) = 60) 11 (zit (μ4 321 7 = 3 ∧ μ4 322 (μ4 321 8) = 62) 12 13) = oCmp (cT B n t1) ∧ ¬ oCmp (cT B n t1) = 0 := by
        simp only [s60, s62, s61] at c3 ⊢
        unfold zit at c3 ⊢
        unfold oCmp
        repeat' split
        all_goals (repeat' split at c3)
        all_goals omega
      have htn : t1 < n := zNlt (c := cT B n) (fun u hu => cT_N u hu) (fun q => hov.2 (by rw [q]; rfl))
      have hmo1 := NT_mono (c := cT B n) (t := t1) 1
      rw [if_neg hov.2] at hpp
      rw [hov.1]
      refine nx_w (by omega) hB e1 (fun μ5 a1 a2 a3 => ⟨rfl, zCw.use (hS μ5 (t1 + 1) l1 (w + c1.length) a1 hg2.2.2.2.1 htn (by omega)) hds (fun r μ6 g => ?_)⟩)
      rcases h2 : S (t1 + 1) l1 (w + c1.length) with ⟨t2, _ | ⟨l2, m2, c2⟩⟩
      · obtain ⟨rfl, g1, g2⟩ := g.1 _ h2
        rw [h2] at hpp
        refine ⟨0, rfl, ?_⟩
        rw [if_pos rfl]
        exact bad rfl g1 (((hF.tr e4).tr a2).tr g2) hpp
      obtain ⟨rfl, g1, g2, g3, g4⟩ := g.2 _ _ _ _ h2
      rw [h2] at hpp
      dsimp only at hpp
      have hg := hgp.2 _ _ _ _ hpp
      simp only [List.length_append, List.length_cons, List.length_nil] at hg
      have h133 := NT_le133 hB t2
      have hoi := (oCmp_in (cT B n t1)).resolve_left hov.2
      refine ⟨1, rfl, ?_⟩
      rw [if_neg (by decide)]
      refine wr_w (by omega) g1 (by omega) (by omega) (by decide) (fun μ7 b1 b2 b3 b4 => ⟨rfl, ?_⟩)
      refine fin (c1 := c1 ++ c2 ++ [oCmp (cT B n t1) * 4096]) ?_ ?_ (fun i hi => ?_) ((((hF.tr e4).tr a2).tr g4).tr b2) hpp ?_
      · simp only [List.length_append, List.length_cons, List.length_nil]
        rw [show w + (c1.length + c2.length + (0 + 1)) = w + c1.length + c2.length + 1 by omega]
        exact b1
      · rw [Seg_app, Seg_app]
        refine ⟨⟨Seg_c e2 (fun i hi => ?_), Seg_c g2 (fun i hi => ?_)⟩, Seg1 ?_⟩
        · rw [b4 i (by omega), g3 i (by omega), a3]
        · rw [b4 i (by omega)]
        · rw [List.length_append, show w + (c1.length + c2.length) = w + c1.length + c2.length by omega, b3]
          omega
      · rw [b4 i (by omega), g3 i (by omega), a3, e3 i hi, hlo i hi]
      · simp only [List.length_append, List.length_cons, List.length_nil]
        omega

