/-! the reference's sums and tests in all their brackets; its clauses -/
theorem mct_S {Q : zTk} {o : Bool} (hQ : okK Q) : ∀ k : Nat, k ≤ 8 → MCT (8 + 3 * k) y_M_readSum [vi (8 - (k : Int))] Q o (lvS o Q.1 Q.2.1 k)
  | 0, _ => by
    have hG := PG_part (o := o) (v := Q.2.1) (S := none) hQ.2.1 (fun s h => by cases h)
    refine q_M_readSum (d := 8) (dp := 7) (by decide) (by decide) hQ (PG_row hQ.2.1 rfl hG) ?_
    refine q_M_readTerm (d := 7) (dp := 6) (by decide) (by decide) hQ hG ?_
    exact q_M_readPart (d := 6) (ds := 0) (by decide) (by decide) ⟨by decide, by decide⟩ hQ (fun _ => rfl) (fun s h => by cases h)
  | k + 1, hk => by
    have ih := mct_S (o := o) hQ k (by omega)
    have hG := PG_part (o := o) (v := Q.2.1) (S := some (lvS o Q.1 Q.2.1 k)) hQ.2.1 (fun s h => by cases h; exact PG_S hQ.2.1 k)
    rw [lvS]
    refine q_M_readSum (d := 8 + 3 * (k + 1)) (dp := 7 + 3 * (k + 1)) (by omega) (by omega) hQ (PG_row hQ.2.1 rfl hG) ?_
    refine q_M_readTerm (d := 7 + 3 * (k + 1)) (dp := 6 + 3 * (k + 1)) (by omega) (by omega) hQ hG ?_
    refine q_M_readPart (d := 6 + 3 * (k + 1)) (ds := 8 + 3 * k) (by omega) (by omega) (by omega) hQ (fun h => by cases h) (fun s h => ?_)
    cases h
    refine ⟨by omega, ?_⟩
    rw [show (8 - ((k + 1 : Nat) : Int) + 1) = 8 - (k : Int) by omega]
    exact ih
theorem mct_T {Q : zTk} {o : Bool} (hQ : okK Q) : ∀ k : Nat, k ≤ 8 → MCT (14 + 3 * k) y_M_readTest [vi (8 - (k : Int))] Q o (lvT o Q.1 Q.2.1 k)
  | 0, _ => by
    have hS := mct_S (o := o) hQ 0 (by omega)
    have hGS := PG_S (o := o) (v := Q.2.1) hQ.2.1 0
    have hG := PG_plain (T := none) hQ.2.1 hGS (fun q h => by cases h)
    refine q_M_readTest (d := 14) (dp := 13) (by decide) (by decide) hQ (PG_row hQ.2.1 rfl hG) ?_
    refine q_M_readBoth (d := 13) (dp := 12) (by decide) (by decide) hQ hG ?_
    exact q_M_readPlain (d := 12) (ds := 8) (dt := 0) (by decide) (by decide) (by decide) ⟨by decide, by decide⟩ hQ hGS hS (fun _ => rfl) (fun q h => by cases h)
  | k + 1, hk => by
    have ih := mct_T (o := o) hQ k (by omega)
    have hS := mct_S (o := o) hQ (k + 1) (by omega)
    have hGS := PG_S (o := o) (v := Q.2.1) hQ.2.1 (k + 1)
    have hG := PG_plain (T := some (lvT o Q.1 Q.2.1 k)) hQ.2.1 hGS (fun q h => by cases h; exact PG_T hQ.2.1 k)
    rw [lvT]
    refine q_M_readTest (d := 14 + 3 * (k + 1)) (dp := 13 + 3 * (k + 1)) (by omega) (by omega) hQ (PG_row hQ.2.1 rfl hG) ?_
    refine q_M_readBoth (d := 13 + 3 * (k + 1)) (dp := 12 + 3 * (k + 1)) (by omega) (by omega) hQ hG ?_
    refine q_M_readPlain (d := 12 + 3 * (k + 1)) (ds := 8 + 3 * (k + 1)) (dt := 14 + 3 * k) (by omega) (by omega) (by omega) (by omega) hQ hGS hS (fun h => by cases h) (fun q h => ?_)
    cases h
    refine ⟨by omega, ?_⟩
    rw [show (8 - ((k + 1 : Nat) : Int) + 1) = 8 - (k : Int) by omega]
    exact ih
/-- behind the reference's parse of a part of a clause -/
def MU {α : Type} (Q : zTk) (o : Bool) (R : Nat × Option α) (lf : α → Nat) (μ μ' : zMem) : Prop := (∀ t1, R = (t1, none) → μ' 355 19 = Q.2.2.1 t1 ∧ FM μ μ') ∧ ∀ t1 a, R = (t1, some a) → MSt Q o t1 (lf a) μ' ∧ FM μ μ'
theorem MU_n {α : Type} {Q : zTk} {o : Bool} {R : Nat × Option α} {lf : α → Nat} {t : Nat} {μ μ' : zMem} (h : R = (t, none)) (h1 : μ' 355 19 = Q.2.2.1 t) (h2 : FM μ μ') : MU Q o R lf μ μ' := by
  refine ⟨fun t1 e => ?_, fun t1 a e => ?_⟩
  · rw [h] at e
    cases e
    exact ⟨h1, h2⟩
  · rw [h] at e
    cases e
theorem MU_s {α : Type} {Q : zTk} {o : Bool} {R : Nat × Option α} {lf : α → Nat} {t : Nat} {a : α} {μ μ' : zMem} (h : R = (t, some a)) (h1 : MSt Q o t (lf a) μ') (h2 : FM μ μ') : MU Q o R lf μ μ' := by
  refine ⟨fun t1 e => ?_, fun t1 a e => ?_⟩
  · rw [h] at e
    cases e
  · rw [h] at e
    cases e
    exact ⟨h1, h2⟩
/-- a sum's, a test's parse at its call; without room when there was a fault -/
theorem su_w {d : Nat} (hd : 33 ≤ d) {Q : zTk} {o : Bool} (hQ : okK Q) {t l : Nat} (w : Nat) {μ : zMem} {K : zRo} (h : MSt Q o t l μ) (hl : l ≤ 50) (hn : ∀ t1, lvS o Q.1 Q.2.1 8 t l w = (t1, none) → ∀ μ', μ' 355 19 = Q.2.2.1 t1 → FM μ μ' → K none μ') (hs : ∀ t1 l1 m c, lvS o Q.1 Q.2.1 8 t l w = (t1, some (l1, m, c)) → l1 ≤ 50 → ∀ μ', MSt Q o t1 l1 μ' → FM μ μ' → K none μ') : zCw d y_M_readSum [vr 355, vi 0] μ K :=
  zCw.use ((mct_S (o := o) hQ 8 (Nat.le_refl _)).1 μ t l w h hl) hd (fun r μ' e => by
    obtain ⟨rfl, e1, e2⟩ := e
    have hg := PG_S (o := o) (v := Q.2.1) hQ.2.1 8 t l w hl h.2.2.2.2.2
    rcases h1 : lvS o Q.1 Q.2.1 8 t l w with ⟨t1, _ | ⟨l1, m1, c1⟩⟩
    · exact hn _ h1 _ (e1 _ h1).1 (e1 _ h1).2
    · exact hs _ _ _ _ h1 (hg.2 _ _ _ _ h1).2.2.2.1 _ (e2 _ _ _ _ h1).1 (e2 _ _ _ _ h1).2)
theorem su_n {d : Nat} (hd : 33 ≤ d) {Q : zTk} (hQ : okK Q) {μ : zMem} {K : zRo} (h : ¬ μ 355 19 = -1) (hk : K none μ) : zCw d y_M_readSum [vr 355, vi 0] μ K :=
  zCw.use ((mct_S (o := true) hQ 8 (Nat.le_refl _)).2 μ h) hd (fun r μ' e => by
    obtain ⟨rfl, rfl⟩ := e
    exact hk)
theorem mt_w {d : Nat} (hd : 39 ≤ d) {Q : zTk} {o : Bool} (hQ : okK Q) {t l : Nat} (w : Nat) {μ : zMem} {K2 : zMem → Prop} (h : MSt Q o t l μ) (hl : l ≤ 50) (hk : ∀ μ', MU Q o (pMT o Q.1 Q.2.1 t l w) (fun a => a.1) μ μ' → K2 μ') : zCw d y_M_takes0 [vr 355, vi 5] μ (fun q μ2 => ∃ n, q = some (vi n) ∧ if ¬ n = 0 then zCw d y_M_readTest [vr 355, vi 0] μ2 (fun q μ2 => q = none ∧ K2 μ2) else K2 μ2) := by
  refine t0_w (by omega) hQ h (by decide) (fun c μ1 a1 a2 => ⟨_, rfl, ?_⟩) (fun c => ⟨_, rfl, ?_⟩)
  · rw [if_pos (by decide)]
    have hP : pMT o Q.1 Q.2.1 t l w = (match lvT o Q.1 Q.2.1 8 (t + 1) l w with
      | (t1, none) => (t1, none)
      | (t1, some (l1, m, cd)) => (t1, some (l1, some m, cd))) := by
      unfold pMT
      rw [if_pos c]
      rfl
    refine zCw.use ((mct_T (o := o) hQ 8 (Nat.le_refl _)).1 μ1 (t + 1) l w a1 hl) hd (fun r μ' e => ?_)
    obtain ⟨rfl, e1, e2⟩ := e
    refine ⟨rfl, hk _ ?_⟩
    rcases h1 : lvT o Q.1 Q.2.1 8 (t + 1) l w with ⟨t1, _ | ⟨l1, m1, c1⟩⟩
    · rw [h1] at hP
      exact MU_n hP (e1 _ h1).1 (a2.tr (e1 _ h1).2)
    · rw [h1] at hP
      exact MU_s hP (e2 _ _ _ _ h1).1 (a2.tr (e2 _ _ _ _ h1).2)
  · rw [if_neg (by decide)]
    have hP : pMT o Q.1 Q.2.1 t l w = (t, some (l, none, [])) := by
      unfold pMT
      rw [if_neg c]
    exact hk _ (MU_s hP h FM.rf)
theorem mt_n {d : Nat} (hd : 39 ≤ d) {μ : zMem} {K2 : zMem → Prop} (h : ¬ μ 355 19 = -1) (hk : K2 μ) : zCw d y_M_takes0 [vr 355, vi 5] μ (fun q μ2 => ∃ n, q = some (vi n) ∧ if ¬ n = 0 then zCw d y_M_readTest [vr 355, vi 0] μ2 (fun q μ2 => q = none ∧ K2 μ2) else K2 μ2) := by
  refine t0_n (by omega) h ⟨_, rfl, ?_⟩
  rw [if_neg (by decide)]
  exact hk
def y_M_readClause : zMt := (⟨"DebtDoorsModel", "readClause", "()V"⟩, prog_14_method_49_code, 1, none)
theorem d_M_readClause_0 : decode prog_14_method_49_code 0 = .ok (.aload_n 0, 1) := by decide +kernel
theorem d_M_readClause_1 : decode prog_14_method_49_code 1 = .ok (.iconst 1, 1) := by decide +kernel
theorem d_M_readClause_2 : decode prog_14_method_49_code 2 = .ok (.invokevirtual 210, 3) := by decide +kernel
theorem d_M_readClause_5 : decode prog_14_method_49_code 5 = .ok (.ifCond .ne 19, 3) := by decide +kernel
theorem d_M_readClause_8 : decode prog_14_method_49_code 8 = .ok (.aload_n 0, 1) := by decide +kernel
theorem d_M_readClause_9 : decode prog_14_method_49_code 9 = .ok (.iconst 2, 1) := by decide +kernel
theorem d_M_readClause_10 : decode prog_14_method_49_code 10 = .ok (.invokevirtual 210, 3) := by decide +kernel
theorem d_M_readClause_13 : decode prog_14_method_49_code 13 = .ok (.ifCond .ne 11, 3) := by decide +kernel
theorem d_M_readClause_16 : decode prog_14_method_49_code 16 = .ok (.aload_n 0, 1) := by decide +kernel
theorem d_M_readClause_17 : decode prog_14_method_49_code 17 = .ok (.iconst 3, 1) := by decide +kernel
theorem d_M_readClause_18 : decode prog_14_method_49_code 18 = .ok (.invokevirtual 210, 3) := by decide +kernel
theorem d_M_readClause_21 : decode prog_14_method_49_code 21 = .ok (.ifCond .eq 11, 3) := by decide +kernel
theorem d_M_readClause_24 : decode prog_14_method_49_code 24 = .ok (.aload_n 0, 1) := by decide +kernel
theorem d_M_readClause_25 : decode prog_14_method_49_code 25 = .ok (.iconst 0, 1) := by decide +kernel
theorem d_M_readClause_26 : decode prog_14_method_49_code 26 = .ok (.invokevirtual 223, 3) := by decide +kernel
theorem d_M_readClause_29 : decode prog_14_method_49_code 29 = .ok (.goto 8, 3) := by decide +kernel
theorem d_M_readClause_32 : decode prog_14_method_49_code 32 = .ok (.aload_n 0, 1) := by decide +kernel
theorem d_M_readClause_33 : decode prog_14_method_49_code 33 = .ok (.iconst 4, 1) := by decide +kernel
theorem d_M_readClause_34 : decode prog_14_method_49_code 34 = .ok (.invokevirtual 227, 3) := by decide +kernel
theorem d_M_readClause_37 : decode prog_14_method_49_code 37 = .ok (.aload_n 0, 1) := by decide +kernel
theorem d_M_readClause_38 : decode prog_14_method_49_code 38 = .ok (.iconst 5, 1) := by decide +kernel
theorem d_M_readClause_39 : decode prog_14_method_49_code 39 = .ok (.invokevirtual 210, 3) := by decide +kernel
theorem d_M_readClause_42 : decode prog_14_method_49_code 42 = .ok (.ifCond .eq 8, 3) := by decide +kernel
theorem d_M_readClause_45 : decode prog_14_method_49_code 45 = .ok (.aload_n 0, 1) := by decide +kernel
theorem d_M_readClause_46 : decode prog_14_method_49_code 46 = .ok (.iconst 0, 1) := by decide +kernel
theorem d_M_readClause_47 : decode prog_14_method_49_code 47 = .ok (.invokevirtual 230, 3) := by decide +kernel
theorem d_M_readClause_50 : decode prog_14_method_49_code 50 = .ok (.return_, 1) := by decide +kernel
def w_M_readClause {d : Nat} (hd : 1 ≤ d) := (show SS ("DebtDoorsModel", prog_14_method_49_code, 1) (none) d 0 0 0 0 _ from (sS (p1 := 37) (sIe (pn := 37) (tt := 24) (ff := 32) (xOr (mm := 16) (xOr (mm := 8) (xJ1 (tgt := 24) k_ne (xV lv_M_210 (xA (rAi (rAr rA0 (rAn 0 d_M_readClause_0 rfl)) (rI d_M_readClause_1 rfl))) (by decide) d_M_readClause_2) d_M_readClause_5 (by decide)) (xJ1 (tgt := 24) k_ne (xV lv_M_210 (xA (rAi (rAr rA0 (rAn 0 d_M_readClause_8 rfl)) (rI d_M_readClause_9 rfl))) (by decide) d_M_readClause_10) d_M_readClause_13 (by decide))) (xNot (xJ1 (tgt := 32) k_eq (xV lv_M_210 (xA (rAi (rAr rA0 (rAn 0 d_M_readClause_16 rfl)) (rI d_M_readClause_17 rfl))) (by decide) d_M_readClause_18) d_M_readClause_21 (by decide)))) (sGo (pn := 37) (sV (xVv lv_M_223 (xA (rAi (rAr rA0 (rAn 0 d_M_readClause_24 rfl)) (rI d_M_readClause_25 rfl))) (by decide) d_M_readClause_26)) d_M_readClause_29 (by decide)) (sV (xVv lv_M_227 (xA (rAi (rAr rA0 (rAn 0 d_M_readClause_32 rfl)) (rI d_M_readClause_33 rfl))) (by decide) d_M_readClause_34))) (sS (p1 := 50) (sIf (pn := 50) (tt := 45) (xNot (xJ1 (tgt := 50) k_eq (xV lv_M_210 (xA (rAi (rAr rA0 (rAn 0 d_M_readClause_37 rfl)) (rI d_M_readClause_38 rfl))) (by decide) d_M_readClause_39) d_M_readClause_42 (by decide))) (sV (xVv lv_M_230 (xA (rAi (rAr rA0 (rAn 0 d_M_readClause_45 rfl)) (rI d_M_readClause_46 rfl))) (by decide) d_M_readClause_47))) (sRv d_M_readClause_50 rfl))))
def y_M_readOrder : zMt := (⟨"DebtDoorsModel", "readOrder", "()V"⟩, prog_14_method_50_code, 1, none)
theorem d_M_readOrder_0 : decode prog_14_method_50_code 0 = .ok (.aload_n 0, 1) := by decide +kernel
theorem d_M_readOrder_1 : decode prog_14_method_50_code 1 = .ok (.bipush 24, 2) := by decide +kernel
theorem d_M_readOrder_3 : decode prog_14_method_50_code 3 = .ok (.invokevirtual 210, 3) := by decide +kernel
theorem d_M_readOrder_6 : decode prog_14_method_50_code 6 = .ok (.ifCond .ne 12, 3) := by decide +kernel
theorem d_M_readOrder_9 : decode prog_14_method_50_code 9 = .ok (.aload_n 0, 1) := by decide +kernel
theorem d_M_readOrder_10 : decode prog_14_method_50_code 10 = .ok (.bipush 25, 2) := by decide +kernel
theorem d_M_readOrder_12 : decode prog_14_method_50_code 12 = .ok (.invokevirtual 210, 3) := by decide +kernel
theorem d_M_readOrder_15 : decode prog_14_method_50_code 15 = .ok (.ifCond .eq 33, 3) := by decide +kernel
theorem d_M_readOrder_18 : decode prog_14_method_50_code 18 = .ok (.aload_n 0, 1) := by decide +kernel
theorem d_M_readOrder_19 : decode prog_14_method_50_code 19 = .ok (.iconst 0, 1) := by decide +kernel
theorem d_M_readOrder_20 : decode prog_14_method_50_code 20 = .ok (.invokevirtual 223, 3) := by decide +kernel
theorem d_M_readOrder_23 : decode prog_14_method_50_code 23 = .ok (.aload_n 0, 1) := by decide +kernel
theorem d_M_readOrder_24 : decode prog_14_method_50_code 24 = .ok (.bipush 27, 2) := by decide +kernel
theorem d_M_readOrder_26 : decode prog_14_method_50_code 26 = .ok (.invokevirtual 227, 3) := by decide +kernel
theorem d_M_readOrder_29 : decode prog_14_method_50_code 29 = .ok (.aload_n 0, 1) := by decide +kernel
theorem d_M_readOrder_30 : decode prog_14_method_50_code 30 = .ok (.iconst 0, 1) := by decide +kernel
theorem d_M_readOrder_31 : decode prog_14_method_50_code 31 = .ok (.invokevirtual 223, 3) := by decide +kernel
theorem d_M_readOrder_34 : decode prog_14_method_50_code 34 = .ok (.aload_n 0, 1) := by decide +kernel
theorem d_M_readOrder_35 : decode prog_14_method_50_code 35 = .ok (.bipush 28, 2) := by decide +kernel
theorem d_M_readOrder_37 : decode prog_14_method_50_code 37 = .ok (.invokevirtual 227, 3) := by decide +kernel
theorem d_M_readOrder_40 : decode prog_14_method_50_code 40 = .ok (.aload_n 0, 1) := by decide +kernel
theorem d_M_readOrder_41 : decode prog_14_method_50_code 41 = .ok (.iconst 0, 1) := by decide +kernel
theorem d_M_readOrder_42 : decode prog_14_method_50_code 42 = .ok (.invokevirtual 223, 3) := by decide +kernel
theorem d_M_readOrder_45 : decode prog_14_method_50_code 45 = .ok (.goto 9, 3) := by decide +kernel
theorem d_M_readOrder_48 : decode prog_14_method_50_code 48 = .ok (.aload_n 0, 1) := by decide +kernel
theorem d_M_readOrder_49 : decode prog_14_method_50_code 49 = .ok (.bipush 26, 2) := by decide +kernel
theorem d_M_readOrder_51 : decode prog_14_method_50_code 51 = .ok (.invokevirtual 227, 3) := by decide +kernel
theorem d_M_readOrder_54 : decode prog_14_method_50_code 54 = .ok (.aload_n 0, 1) := by decide +kernel
theorem d_M_readOrder_55 : decode prog_14_method_50_code 55 = .ok (.bipush 29, 2) := by decide +kernel
theorem d_M_readOrder_57 : decode prog_14_method_50_code 57 = .ok (.invokevirtual 210, 3) := by decide +kernel
theorem d_M_readOrder_60 : decode prog_14_method_50_code 60 = .ok (.ifCond .eq 10, 3) := by decide +kernel
theorem d_M_readOrder_63 : decode prog_14_method_50_code 63 = .ok (.aload_n 0, 1) := by decide +kernel
theorem d_M_readOrder_64 : decode prog_14_method_50_code 64 = .ok (.iconst 1, 1) := by decide +kernel
theorem d_M_readOrder_65 : decode prog_14_method_50_code 65 = .ok (.bipush 20, 2) := by decide +kernel
theorem d_M_readOrder_67 : decode prog_14_method_50_code 67 = .ok (.invokevirtual 233, 3) := by decide +kernel
theorem d_M_readOrder_70 : decode prog_14_method_50_code 70 = .ok (.aload_n 0, 1) := by decide +kernel
theorem d_M_readOrder_71 : decode prog_14_method_50_code 71 = .ok (.iconst 5, 1) := by decide +kernel
theorem d_M_readOrder_72 : decode prog_14_method_50_code 72 = .ok (.invokevirtual 210, 3) := by decide +kernel
theorem d_M_readOrder_75 : decode prog_14_method_50_code 75 = .ok (.ifCond .eq 8, 3) := by decide +kernel
theorem d_M_readOrder_78 : decode prog_14_method_50_code 78 = .ok (.aload_n 0, 1) := by decide +kernel
theorem d_M_readOrder_79 : decode prog_14_method_50_code 79 = .ok (.iconst 0, 1) := by decide +kernel
theorem d_M_readOrder_80 : decode prog_14_method_50_code 80 = .ok (.invokevirtual 230, 3) := by decide +kernel
theorem d_M_readOrder_83 : decode prog_14_method_50_code 83 = .ok (.return_, 1) := by decide +kernel
def w_M_readOrder {d : Nat} (hd : 1 ≤ d) := (show SS ("DebtDoorsModel", prog_14_method_50_code, 1) (none) d 0 0 0 0 _ from (sS (p1 := 54) (sIe (pn := 54) (tt := 18) (ff := 48) (xOr (mm := 9) (xJ1 (tgt := 18) k_ne (xV lv_M_210 (xA (rAi (rAr rA0 (rAn 0 d_M_readOrder_0 rfl)) (rB d_M_readOrder_1 rfl))) (by decide) d_M_readOrder_3) d_M_readOrder_6 (by decide)) (xNot (xJ1 (tgt := 48) k_eq (xV lv_M_210 (xA (rAi (rAr rA0 (rAn 0 d_M_readOrder_9 rfl)) (rB d_M_readOrder_10 rfl))) (by decide) d_M_readOrder_12) d_M_readOrder_15 (by decide)))) (sS (p1 := 23) (sV (xVv lv_M_223 (xA (rAi (rAr rA0 (rAn 0 d_M_readOrder_18 rfl)) (rI d_M_readOrder_19 rfl))) (by decide) d_M_readOrder_20)) (sS (p1 := 29) (sV (xVv lv_M_227 (xA (rAi (rAr rA0 (rAn 0 d_M_readOrder_23 rfl)) (rB d_M_readOrder_24 rfl))) (by decide) d_M_readOrder_26)) (sS (p1 := 34) (sV (xVv lv_M_223 (xA (rAi (rAr rA0 (rAn 0 d_M_readOrder_29 rfl)) (rI d_M_readOrder_30 rfl))) (by decide) d_M_readOrder_31)) (sS (p1 := 40) (sV (xVv lv_M_227 (xA (rAi (rAr rA0 (rAn 0 d_M_readOrder_34 rfl)) (rB d_M_readOrder_35 rfl))) (by decide) d_M_readOrder_37)) (sGo (pn := 54) (sV (xVv lv_M_223 (xA (rAi (rAr rA0 (rAn 0 d_M_readOrder_40 rfl)) (rI d_M_readOrder_41 rfl))) (by decide) d_M_readOrder_42)) d_M_readOrder_45 (by decide)))))) (sV (xVv lv_M_227 (xA (rAi (rAr rA0 (rAn 0 d_M_readOrder_48 rfl)) (rB d_M_readOrder_49 rfl))) (by decide) d_M_readOrder_51))) (sS (p1 := 70) (sIf (pn := 70) (tt := 63) (xNot (xJ1 (tgt := 70) k_eq (xV lv_M_210 (xA (rAi (rAr rA0 (rAn 0 d_M_readOrder_54 rfl)) (rB d_M_readOrder_55 rfl))) (by decide) d_M_readOrder_57) d_M_readOrder_60 (by decide))) (sV (xVv lv_M_233 (xA (rAi (rAi (rAr rA0 (rAn 0 d_M_readOrder_63 rfl)) (rI d_M_readOrder_64 rfl)) (rB d_M_readOrder_65 rfl))) (by decide) d_M_readOrder_67))) (sS (p1 := 83) (sIf (pn := 83) (tt := 78) (xNot (xJ1 (tgt := 83) k_eq (xV lv_M_210 (xA (rAi (rAr rA0 (rAn 0 d_M_readOrder_70 rfl)) (rI d_M_readOrder_71 rfl))) (by decide) d_M_readOrder_72) d_M_readOrder_75 (by decide))) (sV (xVv lv_M_230 (xA (rAi (rAr rA0 (rAn 0 d_M_readOrder_78 rfl)) (rI d_M_readOrder_79 rfl))) (by decide) d_M_readOrder_80))) (sRv d_M_readOrder_83 rfl)))))
theorem m_M_readOrder : Cond.instanceMethod y_M_readOrder.1 ∈ zTb ∧ Cond.selects y_M_readOrder.1.cls y_M_readOrder.1 y_M_readOrder.1 ∈ zTb ∧ Cond.initialized y_M_readOrder.1.cls ∈ zTb ∧ Cond.code y_M_readOrder.1 y_M_readOrder.2.1 y_M_readOrder.2.2.1 y_M_readOrder.2.2.2 ∈ zTb ∧ (y_M_readOrder.1.cls ≠ "java/lang/invoke/MethodHandle" ∧ y_M_readOrder.1.cls ≠ "java/lang/invoke/VarHandle" ∧ (parseMethodDescriptor y_M_readOrder.1.desc).map (fun d => d.parameters.length) = some 0) ∧ y_M_readOrder.2.2.1 ≤ 20 :=
  ⟨(zTb_in 1717 (by decide +kernel) (by decide +kernel)), (List.mem_filter.mpr ⟨List.mem_append_left _ (by decide +kernel), by decide +kernel⟩), (zTb_in 151 (by decide +kernel) (by decide +kernel)), (zTb_in 1718 (by decide +kernel) (by decide +kernel)), by decide +kernel, by decide +kernel⟩
theorem lv_M_237 : zLv "DebtDoorsModel" 237 y_M_readOrder 0 12 := ⟨⟨(zTb_in 1715 (by decide +kernel) (by decide +kernel)), m_M_readOrder.1, m_M_readOrder.2.1, m_M_readOrder.2.2⟩, _, rfl, rfl⟩
theorem m_M_readClause : Cond.instanceMethod y_M_readClause.1 ∈ zTb ∧ Cond.selects y_M_readClause.1.cls y_M_readClause.1 y_M_readClause.1 ∈ zTb ∧ Cond.initialized y_M_readClause.1.cls ∈ zTb ∧ Cond.code y_M_readClause.1 y_M_readClause.2.1 y_M_readClause.2.2.1 y_M_readClause.2.2.2 ∈ zTb ∧ (y_M_readClause.1.cls ≠ "java/lang/invoke/MethodHandle" ∧ y_M_readClause.1.cls ≠ "java/lang/invoke/VarHandle" ∧ (parseMethodDescriptor y_M_readClause.1.desc).map (fun d => d.parameters.length) = some 0) ∧ y_M_readClause.2.2.1 ≤ 20 :=
  ⟨(zTb_in 1773 (by decide +kernel) (by decide +kernel)), (List.mem_filter.mpr ⟨List.mem_append_left _ (by decide +kernel), by decide +kernel⟩), (zTb_in 151 (by decide +kernel) (by decide +kernel)), (zTb_in 1774 (by decide +kernel) (by decide +kernel)), by decide +kernel, by decide +kernel⟩
theorem lv_M_240 : zLv "DebtDoorsModel" 240 y_M_readClause 0 12 := ⟨⟨(zTb_in 1771 (by decide +kernel) (by decide +kernel)), m_M_readClause.1, m_M_readClause.2.1, m_M_readClause.2.2⟩, _, rfl, rfl⟩
def y_M_readOne : zMt := (⟨"DebtDoorsModel", "readOne", "()V"⟩, prog_14_method_51_code, 1, none)
theorem d_M_readOne_0 : decode prog_14_method_51_code 0 = .ok (.aload_n 0, 1) := by decide +kernel
theorem d_M_readOne_1 : decode prog_14_method_51_code 1 = .ok (.getfield 219, 3) := by decide +kernel
theorem d_M_readOne_4 : decode prog_14_method_51_code 4 = .ok (.ifCond .eq 10, 3) := by decide +kernel
theorem d_M_readOne_7 : decode prog_14_method_51_code 7 = .ok (.aload_n 0, 1) := by decide +kernel
theorem d_M_readOne_8 : decode prog_14_method_51_code 8 = .ok (.invokevirtual 237, 3) := by decide +kernel
theorem d_M_readOne_11 : decode prog_14_method_51_code 11 = .ok (.goto 7, 3) := by decide +kernel
theorem d_M_readOne_14 : decode prog_14_method_51_code 14 = .ok (.aload_n 0, 1) := by decide +kernel
theorem d_M_readOne_15 : decode prog_14_method_51_code 15 = .ok (.invokevirtual 240, 3) := by decide +kernel
theorem d_M_readOne_18 : decode prog_14_method_51_code 18 = .ok (.return_, 1) := by decide +kernel
def w_M_readOne {d : Nat} (hd : 1 ≤ d) := (show SS ("DebtDoorsModel", prog_14_method_51_code, 1) (none) d 0 0 0 0 _ from (sS (p1 := 18) (sIe (pn := 18) (tt := 7) (ff := 14) (xC (rNot (rJ1 (tgt := 14) k_eq (rF 8 fl_M_219 nk_12_8 (rAn 0 d_M_readOne_0 rfl) d_M_readOne_1 rfl) d_M_readOne_4 (by decide)))) (sGo (pn := 18) (sV (xVv lv_M_237 (xA (rAr rA0 (rAn 0 d_M_readOne_7 rfl))) (by decide) d_M_readOne_8)) d_M_readOne_11 (by decide)) (sV (xVv lv_M_240 (xA (rAr rA0 (rAn 0 d_M_readOne_14 rfl))) (by decide) d_M_readOne_15))) (sRv d_M_readOne_18 rfl)))
def y_M_splits : zMt := (⟨"DebtDoorsModel", "splits", "(I)V"⟩, prog_14_method_40_code, 6, none)
theorem m_M_splits : Cond.instanceMethod y_M_splits.1 ∈ zTb ∧ Cond.selects y_M_splits.1.cls y_M_splits.1 y_M_splits.1 ∈ zTb ∧ Cond.initialized y_M_splits.1.cls ∈ zTb ∧ Cond.code y_M_splits.1 y_M_splits.2.1 y_M_splits.2.2.1 y_M_splits.2.2.2 ∈ zTb ∧ (y_M_splits.1.cls ≠ "java/lang/invoke/MethodHandle" ∧ y_M_splits.1.cls ≠ "java/lang/invoke/VarHandle" ∧ (parseMethodDescriptor y_M_splits.1.desc).map (fun d => d.parameters.length) = some 1) ∧ y_M_splits.2.2.1 ≤ 20 :=
  ⟨(zTb_in 1698 (by decide +kernel) (by decide +kernel)), (List.mem_filter.mpr ⟨List.mem_append_left _ (by decide +kernel), by decide +kernel⟩), (zTb_in 151 (by decide +kernel) (by decide +kernel)), (zTb_in 1699 (by decide +kernel) (by decide +kernel)), by decide +kernel, by decide +kernel⟩
theorem lv_M_265 : zLv "DebtDoorsModel" 265 y_M_splits 1 12 := ⟨⟨(zTb_in 1696 (by decide +kernel) (by decide +kernel)), m_M_splits.1, m_M_splits.2.1, m_M_splits.2.2⟩, _, rfl, rfl⟩
theorem fp_12_11 : zFp 12 11 0 := ⟨_, rfl, rfl, rfl, by decide⟩
theorem m_M_readOne : Cond.instanceMethod y_M_readOne.1 ∈ zTb ∧ Cond.selects y_M_readOne.1.cls y_M_readOne.1 y_M_readOne.1 ∈ zTb ∧ Cond.initialized y_M_readOne.1.cls ∈ zTb ∧ Cond.code y_M_readOne.1 y_M_readOne.2.1 y_M_readOne.2.2.1 y_M_readOne.2.2.2 ∈ zTb ∧ (y_M_readOne.1.cls ≠ "java/lang/invoke/MethodHandle" ∧ y_M_readOne.1.cls ≠ "java/lang/invoke/VarHandle" ∧ (parseMethodDescriptor y_M_readOne.1.desc).map (fun d => d.parameters.length) = some 0) ∧ y_M_readOne.2.2.1 ≤ 20 :=
  ⟨(zTb_in 1713 (by decide +kernel) (by decide +kernel)), (List.mem_filter.mpr ⟨List.mem_append_left _ (by decide +kernel), by decide +kernel⟩), (zTb_in 151 (by decide +kernel) (by decide +kernel)), (zTb_in 1714 (by decide +kernel) (by decide +kernel)), by decide +kernel, by decide +kernel⟩
theorem lv_M_268 : zLv "DebtDoorsModel" 268 y_M_readOne 0 12 := ⟨⟨(zTb_in 1711 (by decide +kernel) (by decide +kernel)), m_M_readOne.1, m_M_readOne.2.1, m_M_readOne.2.2⟩, _, rfl, rfl⟩
theorem fl_M_187 : zFl "DebtDoorsModel" 187 12 16 := ⟨_, rfl, by decide, (zTb_in 1342 (by decide +kernel) (by decide +kernel)), rfl⟩
theorem nk_12_16 : zNk 12 16 = some 0 := rfl
def y_M_reads : zMt := (⟨"DebtDoorsModel", "reads", "()Z"⟩, prog_14_method_58_code, 2, some .boolean)
theorem d_M_reads_0 : decode prog_14_method_58_code 0 = .ok (.aload_n 0, 1) := by decide +kernel
theorem d_M_reads_1 : decode prog_14_method_58_code 1 = .ok (.aload_n 0, 1) := by decide +kernel
theorem d_M_reads_2 : decode prog_14_method_58_code 2 = .ok (.getfield 181, 3) := by decide +kernel
theorem d_M_reads_5 : decode prog_14_method_58_code 5 = .ok (.invokevirtual 265, 3) := by decide +kernel
theorem d_M_reads_8 : decode prog_14_method_58_code 8 = .ok (.aload_n 0, 1) := by decide +kernel
theorem d_M_reads_9 : decode prog_14_method_58_code 9 = .ok (.iconst 0, 1) := by decide +kernel
theorem d_M_reads_10 : decode prog_14_method_58_code 10 = .ok (.putfield 181, 3) := by decide +kernel
theorem d_M_reads_13 : decode prog_14_method_58_code 13 = .ok (.aload_n 0, 1) := by decide +kernel
theorem d_M_reads_14 : decode prog_14_method_58_code 14 = .ok (.iconst 0, 1) := by decide +kernel
theorem d_M_reads_15 : decode prog_14_method_58_code 15 = .ok (.putfield 207, 3) := by decide +kernel
theorem d_M_reads_18 : decode prog_14_method_58_code 18 = .ok (.aload_n 0, 1) := by decide +kernel
theorem d_M_reads_19 : decode prog_14_method_58_code 19 = .ok (.iconst 0, 1) := by decide +kernel
theorem d_M_reads_20 : decode prog_14_method_58_code 20 = .ok (.putfield 216, 3) := by decide +kernel
theorem d_M_reads_23 : decode prog_14_method_58_code 23 = .ok (.aload_n 0, 1) := by decide +kernel
theorem d_M_reads_24 : decode prog_14_method_58_code 24 = .ok (.iconst (-1), 1) := by decide +kernel
theorem d_M_reads_25 : decode prog_14_method_58_code 25 = .ok (.putfield 200, 3) := by decide +kernel
theorem d_M_reads_28 : decode prog_14_method_58_code 28 = .ok (.aload_n 0, 1) := by decide +kernel
theorem d_M_reads_29 : decode prog_14_method_58_code 29 = .ok (.invokevirtual 268, 3) := by decide +kernel
theorem d_M_reads_32 : decode prog_14_method_58_code 32 = .ok (.iconst 1, 1) := by decide +kernel
theorem d_M_reads_33 : decode prog_14_method_58_code 33 = .ok (.istore_n 1, 1) := by decide +kernel
theorem d_M_reads_34 : decode prog_14_method_58_code 34 = .ok (.aload_n 0, 1) := by decide +kernel
theorem d_M_reads_35 : decode prog_14_method_58_code 35 = .ok (.bipush 59, 2) := by decide +kernel
theorem d_M_reads_37 : decode prog_14_method_58_code 37 = .ok (.invokestatic 249, 3) := by decide +kernel
theorem d_M_reads_40 : decode prog_14_method_58_code 40 = .ok (.invokevirtual 210, 3) := by decide +kernel
theorem d_M_reads_43 : decode prog_14_method_58_code 43 = .ok (.ifCond .eq 30, 3) := by decide +kernel
theorem d_M_reads_46 : decode prog_14_method_58_code 46 = .ok (.iload_n 1, 1) := by decide +kernel
theorem d_M_reads_47 : decode prog_14_method_58_code 47 = .ok (.bipush 12, 2) := by decide +kernel
theorem d_M_reads_49 : decode prog_14_method_58_code 49 = .ok (.if_icmp .ne 7, 3) := by decide +kernel
theorem d_M_reads_52 : decode prog_14_method_58_code 52 = .ok (.aload_n 0, 1) := by decide +kernel
theorem d_M_reads_53 : decode prog_14_method_58_code 53 = .ok (.invokevirtual 213, 3) := by decide +kernel
theorem d_M_reads_56 : decode prog_14_method_58_code 56 = .ok (.aload_n 0, 1) := by decide +kernel
theorem d_M_reads_57 : decode prog_14_method_58_code 57 = .ok (.invokevirtual 203, 3) := by decide +kernel
theorem d_M_reads_60 : decode prog_14_method_58_code 60 = .ok (.ifCond .eq 7, 3) := by decide +kernel
theorem d_M_reads_63 : decode prog_14_method_58_code 63 = .ok (.aload_n 0, 1) := by decide +kernel
theorem d_M_reads_64 : decode prog_14_method_58_code 64 = .ok (.invokevirtual 268, 3) := by decide +kernel
theorem d_M_reads_67 : decode prog_14_method_58_code 67 = .ok (.iinc 1 1, 3) := by decide +kernel
theorem d_M_reads_70 : decode prog_14_method_58_code 70 = .ok (.goto (-36), 3) := by decide +kernel
theorem d_M_reads_73 : decode prog_14_method_58_code 73 = .ok (.aload_n 0, 1) := by decide +kernel
theorem d_M_reads_74 : decode prog_14_method_58_code 74 = .ok (.invokevirtual 203, 3) := by decide +kernel
theorem d_M_reads_77 : decode prog_14_method_58_code 77 = .ok (.ifCond .eq 18, 3) := by decide +kernel
theorem d_M_reads_80 : decode prog_14_method_58_code 80 = .ok (.aload_n 0, 1) := by decide +kernel
theorem d_M_reads_81 : decode prog_14_method_58_code 81 = .ok (.getfield 207, 3) := by decide +kernel
theorem d_M_reads_84 : decode prog_14_method_58_code 84 = .ok (.aload_n 0, 1) := by decide +kernel
theorem d_M_reads_85 : decode prog_14_method_58_code 85 = .ok (.getfield 187, 3) := by decide +kernel
theorem d_M_reads_88 : decode prog_14_method_58_code 88 = .ok (.if_icmp .ge 7, 3) := by decide +kernel
theorem d_M_reads_91 : decode prog_14_method_58_code 91 = .ok (.aload_n 0, 1) := by decide +kernel
theorem d_M_reads_92 : decode prog_14_method_58_code 92 = .ok (.invokevirtual 213, 3) := by decide +kernel
theorem d_M_reads_95 : decode prog_14_method_58_code 95 = .ok (.aload_n 0, 1) := by decide +kernel
theorem d_M_reads_96 : decode prog_14_method_58_code 96 = .ok (.aload_n 0, 1) := by decide +kernel
theorem d_M_reads_97 : decode prog_14_method_58_code 97 = .ok (.getfield 200, 3) := by decide +kernel
theorem d_M_reads_100 : decode prog_14_method_58_code 100 = .ok (.putfield 47, 3) := by decide +kernel
theorem d_M_reads_103 : decode prog_14_method_58_code 103 = .ok (.aload_n 0, 1) := by decide +kernel
theorem d_M_reads_104 : decode prog_14_method_58_code 104 = .ok (.invokevirtual 203, 3) := by decide +kernel
theorem d_M_reads_107 : decode prog_14_method_58_code 107 = .ok (.ireturn, 1) := by decide +kernel
def w_M_reads {d : Nat} (hd : 2 ≤ d) := (show SS ("DebtDoorsModel", prog_14_method_58_code, 2) (some .boolean) d 0 0 0 0 _ from (sS (p1 := 8) (sV (xVv lv_M_265 (xA (rAi (rAr rA0 (rAn 0 d_M_reads_0 rfl)) (rF 11 fl_M_181 nk_12_11 (rAn 0 d_M_reads_1 rfl) d_M_reads_2 rfl))) (by decide) d_M_reads_5)) (sS (p1 := 13) (sP 11 fl_M_181 fp_12_11 nk_12_11 (rAn 0 d_M_reads_8 rfl) (xE (rI d_M_reads_9 rfl)) d_M_reads_10 rfl) (sS (p1 := 18) (sP 17 fl_M_207 fp_12_17 nk_12_17 (rAn 0 d_M_reads_13 rfl) (xE (rI d_M_reads_14 rfl)) d_M_reads_15 rfl) (sS (p1 := 23) (sP 18 fl_M_216 fp_12_18 nk_12_18 (rAn 0 d_M_reads_18 rfl) (xE (rI d_M_reads_19 rfl)) d_M_reads_20 rfl) (sS (p1 := 28) (sP 19 fl_M_200 fp_12_19 nk_12_19 (rAn 0 d_M_reads_23 rfl) (xE (rI d_M_reads_24 rfl)) d_M_reads_25 rfl) (sS (p1 := 32) (sV (xVv lv_M_268 (xA (rAr rA0 (rAn 0 d_M_reads_28 rfl))) (by decide) d_M_reads_29)) (sS (p1 := 73) (sS (p1 := 34) (sIn 1 (xE (rI d_M_reads_32 rfl)) d_M_reads_33 rfl (by decide)) (sLp (ps := 67) (tt := 46) (pn := 73) (p1 := 0) (p2 := 0) (xNot (xJ1 (tgt := 73) k_eq (xV lv_M_210 (xA (rAi (rAr rA0 (rAn 0 d_M_reads_34 rfl)) (rS p_M_sign (Nat.le_trans (Nat.le_of_ble_eq_true rfl) hd) ls_M_249 (rAi rA0 (rB d_M_reads_35 rfl)) (by decide) d_M_reads_37))) (by decide) d_M_reads_40) d_M_reads_43 (by decide))) (sS (p1 := 56) (sIf (pn := 56) (tt := 52) (xC (rNot (rJ2 (tgt := 56) j_ne (rIn 1 d_M_reads_46 rfl) (rB d_M_reads_47 rfl) d_M_reads_49 (by decide)))) (sV (xVv lv_M_213 (xA (rAr rA0 (rAn 0 d_M_reads_52 rfl))) (by decide) d_M_reads_53))) (sIf (pn := 67) (tt := 63) (xC (rNot (rJ1 (tgt := 67) k_eq (rV p_M_fine (Nat.le_trans (Nat.le_of_ble_eq_true rfl) hd) lv_M_203 (rAr rA0 (rAn 0 d_M_reads_56 rfl)) (by decide) d_M_reads_57) d_M_reads_60 (by decide)))) (sV (xVv lv_M_268 (xA (rAr rA0 (rAn 0 d_M_reads_63 rfl))) (by decide) d_M_reads_64)))) (sGo (pn := 34) (sInc d_M_reads_67 (by decide)) d_M_reads_70 (by decide)))) (sS (p1 := 95) (sIf (pn := 95) (tt := 91) (xC (rAnd (mm := 80) (rNot (rJ1 (tgt := 95) k_eq (rV p_M_fine (Nat.le_trans (Nat.le_of_ble_eq_true rfl) hd) lv_M_203 (rAr rA0 (rAn 0 d_M_reads_73 rfl)) (by decide) d_M_reads_74) d_M_reads_77 (by decide))) (rNot (rJ2 (tgt := 95) j_ge (rF 17 fl_M_207 nk_12_17 (rAn 0 d_M_reads_80 rfl) d_M_reads_81 rfl) (rF 16 fl_M_187 nk_12_16 (rAn 0 d_M_reads_84 rfl) d_M_reads_85 rfl) d_M_reads_88 (by decide))))) (sV (xVv lv_M_213 (xA (rAr rA0 (rAn 0 d_M_reads_91 rfl))) (by decide) d_M_reads_92))) (sS (p1 := 103) (sP 12 fl_M_47 fp_12_12 nk_12_12 (rAn 0 d_M_reads_95 rfl) (xE (rF 19 fl_M_200 nk_12_19 (rAn 0 d_M_reads_96 rfl) d_M_reads_97 rfl)) d_M_reads_100 rfl) (sRz (xE (rV p_M_fine (Nat.le_trans (Nat.le_of_ble_eq_true rfl) hd) lv_M_203 (rAr rA0 (rAn 0 d_M_reads_103 rfl)) (by decide) d_M_reads_104)) d_M_reads_107 rfl)))))))))))
theorem q_M_readClause {d : Nat} (hd : 40 ≤ d) {Q : zTk} (hQ : okK Q) {t l w : Nat} {μ : zMem} (h : MSt Q false t l μ) (hl : l ≤ 50) : zSp d 0 0 y_M_readClause zT0 [vr 355] μ zT0 (fun r μ' => r = none ∧ MU Q false (pLawC Q.1 Q.2.1 t l w) (fun a => a.1) μ μ') := by
  refine zSp.ss [vr 355] rfl (w_M_readClause (Nat.le_trans (by decide) hd)) rfl rfl ?_
  (try simp only [zit_e, Bool.and_eq_true, Bool.or_eq_true, Bool.not_eq_true', Bool.and_eq_false_iff, Bool.or_eq_false_iff, Bool.not_eq_false', zbe, zdt, zdf, zb2_p, zbp_0, zbp_1, zbp_inj, zbp_01, Bool.true_eq_false, Bool.false_eq_true, true_and, and_true, Decidable.not_not, Classical.not_not, implies_true, List.nil_append, List.cons_append, List.append_assoc, Option.some.injEq, Sum.inl.injEq, zSw_c, zSw_n]); (try simp only [zit_e, Bool.and_eq_true, Bool.or_eq_true, Bool.not_eq_true', Bool.and_eq_false_iff, Bool.or_eq_false_iff, Bool.not_eq_false', zbe, zdt, zdf, zb2_p, zbp_0, zbp_1, zbp_inj, zbp_01, Bool.true_eq_false, Bool.false_eq_true, true_and, and_true, Decidable.not_not, Classical.not_not, implies_true, List.nil_append, List.cons_append, List.append_assoc, Option.some.injEq, Sum.inl.injEq, zSw_c, zSw_n, zc_355]); (try simp only [zi_cs, zi_c0, zii_cs, zii_c0, zl_cs, zl_c0, zll_cs, zll_c0, zr_cs, zr_c0, zrr_cs, zrr_c0, zxs_cs, zxs_c0, zxx_cs, zxx_c0, zfree_c0, zfree_c1, zfree_cs, zfree_cz, zlong_i, zlong_r, zlong_x, zset_0, zset_s, true_and, and_true, Option.some.injEq, Sum.inl.injEq, Sum.inr.injEq, zb2_p, zbp_0, zbp_1, zbp_inj, zbp_01, Nat.zero_add, Nat.reduceAdd, implies_true, List.nil_append, List.cons_append, List.append_assoc, Int.not_lt, Int.not_le, Decidable.not_not, Int.zero_add, Int.reduceLE, Int.reduceLT, Int.reduceEq, Int.reduceNe, Int.reduceAdd, Int.reduceSub, Int.reduceMul, Int.reduceNeg, Int.reduceToNat, Nat.reduceMul, Nat.reduceLT, Nat.reduceEqDiff, and_self, ite_true, ite_false, zx1, zx2, zRecv, List.length_cons, List.length_nil, ne_eq, not_true_eq_false, not_false_eq_true, true_or, or_true, or_false, false_or, and_false, false_and, zf01, zf10, reduceCtorEq, zSw_c, zSw_n, zm_r, zit_T, zit_F, false_implies, true_implies, zc_355])
  generalize hR : pLawC Q.1 Q.2.1 t l w = R
  unfold pLawC at hR
  have tail : ∀ {t1 l1 : Nat} {m1 : Mn} {c1 : List Int} {μ1 : zMem}, 1 ≤ Q.1 t ∧ Q.1 t ≤ 4 → pLw Q.1 Q.2.1 t l w = (t1, some (l1, m1, c1)) → l1 ≤ 50 → MSt Q false t1 l1 μ1 → FM μ μ1 → zCw d y_M_takes0 [vr 355, vi 5] μ1 (fun q μ2 => ∃ n, q = some (vi n) ∧ if ¬ n = 0 then zCw d y_M_readTest [vr 355, vi 0] μ2 (fun q μ2 => q = none ∧ MU Q false R (fun a => a.1) μ μ2) else MU Q false R (fun a => a.1) μ μ2) := by
    intro t1 l1 m1 c1 μ1 g0 g1 g2 g3 g4
    rw [if_pos g0, g1] at hR
    dsimp only at hR
    refine mt_w (by omega) hQ (w + c1.length) g3 g2 (fun μ2 e => ?_)
    rcases h1 : pMT false Q.1 Q.2.1 t1 l1 (w + c1.length) with ⟨t2, _ | ⟨l2, mt, c2⟩⟩
    · rw [h1] at hR
      exact MU_n hR.symm (e.1 _ h1).1 (g4.tr (e.1 _ h1).2)
    · rw [h1] at hR
      exact MU_s hR.symm (e.2 _ _ h1).1 (g4.tr (e.2 _ _ h1).2)
  have kind : ∀ {μ1 : zMem}, 1 ≤ Q.1 t ∧ Q.1 t ≤ 3 → MSt Q false (t + 1) l μ1 → FM μ μ1 → zCw d y_M_readSum [vr 355, vi 0] μ1 (fun q μ2 => q = none ∧ zCw d y_M_takes0 [vr 355, vi 5] μ2 (fun q μ2 => ∃ n, q = some (vi n) ∧ if ¬ n = 0 then zCw d y_M_readTest [vr 355, vi 0] μ2 (fun q μ2 => q = none ∧ MU Q false R (fun a => a.1) μ μ2) else MU Q false R (fun a => a.1) μ μ2)) := by
    intro μ1 g0 g1 g2
    have hL : pLw Q.1 Q.2.1 t l w = lvS false Q.1 Q.2.1 8 (t + 1) l w := by
      unfold pLw
      rw [if_neg (by omega)]
    refine su_w (by omega) hQ w g1 hl (fun t1 h1 μ2 a1 a2 => ⟨rfl, ?_⟩) (fun t1 l1 m1 c1 h1 hl1 μ2 a1 a2 => ⟨rfl, tail (by omega) (hL.trans h1) hl1 a1 (g2.tr a2)⟩)
    rw [if_pos (by omega), hL, h1] at hR
    exact mt_n (by omega) (bad_n hQ a1) (MU_n hR.symm a1 (g2.tr a2))
  refine t0_w (by omega) hQ h (by decide) (fun c1 μ1 a1 a2 => ⟨_, rfl, by
    rw [if_pos (by decide)]
    exact kind (by omega) a1 a2⟩) (fun c1 => ⟨_, rfl, ?_⟩)
  rw [if_neg (by decide)]
  refine t0_w (by omega) hQ h (by decide) (fun c1 μ1 a1 a2 => ⟨_, rfl, by
    rw [if_pos (by decide)]
    exact kind (by omega) a1 a2⟩) (fun c2 => ⟨_, rfl, ?_⟩)
  rw [if_neg (by decide)]
  refine t0_w (by omega) hQ h (by decide) (fun c1 μ1 a1 a2 => ⟨_, rfl, by
    rw [if_pos (by decide)]
    exact kind (by omega) a1 a2⟩) (fun c3 => ⟨_, rfl, ?_⟩)
  rw [if_neg (by decide)]
  refine mu_w (by omega) hQ h (by decide) (fun c4 μ1 a1 a2 => ⟨rfl, ?_⟩) (fun c4 μ1 a1 a2 => ⟨rfl, ?_⟩)
  · refine tail (by omega) (t1 := t + 1) (l1 := l) (m1 := fun _ => some 1) (c1 := []) ?_ hl a1 a2
    unfold pLw
    rw [if_pos c4]
  · rw [if_neg (by omega)] at hR
    exact mt_n (by omega) (bad_n hQ a1) (MU_n hR.symm a1 a2)
theorem q_M_readOrder {d : Nat} (hd : 40 ≤ d) {Q : zTk} (hQ : okK Q) {t l w : Nat} {μ : zMem} (h : MSt Q true t l μ) (hl : l ≤ 50) : zSp d 0 0 y_M_readOrder zT0 [vr 355] μ zT0 (fun r μ' => r = none ∧ MU Q true (pOrdC Q.1 Q.2.1 t l w) (fun a => a.1) μ μ') := by
  refine zSp.ss [vr 355] rfl (w_M_readOrder (Nat.le_trans (by decide) hd)) rfl rfl ?_
  (try simp only [zit_e, Bool.and_eq_true, Bool.or_eq_true, Bool.not_eq_true', Bool.and_eq_false_iff, Bool.or_eq_false_iff, Bool.not_eq_false', zbe, zdt, zdf, zb2_p, zbp_0, zbp_1, zbp_inj, zbp_01, Bool.true_eq_false, Bool.false_eq_true, true_and, and_true, Decidable.not_not, Classical.not_not, implies_true, List.nil_append, List.cons_append, List.append_assoc, Option.some.injEq, Sum.inl.injEq, zSw_c, zSw_n]); (try simp only [zit_e, Bool.and_eq_true, Bool.or_eq_true, Bool.not_eq_true', Bool.and_eq_false_iff, Bool.or_eq_false_iff, Bool.not_eq_false', zbe, zdt, zdf, zb2_p, zbp_0, zbp_1, zbp_inj, zbp_01, Bool.true_eq_false, Bool.false_eq_true, true_and, and_true, Decidable.not_not, Classical.not_not, implies_true, List.nil_append, List.cons_append, List.append_assoc, Option.some.injEq, Sum.inl.injEq, zSw_c, zSw_n, zc_355]); (try simp only [zi_cs, zi_c0, zii_cs, zii_c0, zl_cs, zl_c0, zll_cs, zll_c0, zr_cs, zr_c0, zrr_cs, zrr_c0, zxs_cs, zxs_c0, zxx_cs, zxx_c0, zfree_c0, zfree_c1, zfree_cs, zfree_cz, zlong_i, zlong_r, zlong_x, zset_0, zset_s, true_and, and_true, Option.some.injEq, Sum.inl.injEq, Sum.inr.injEq, zb2_p, zbp_0, zbp_1, zbp_inj, zbp_01, Nat.zero_add, Nat.reduceAdd, implies_true, List.nil_append, List.cons_append, List.append_assoc, Int.not_lt, Int.not_le, Decidable.not_not, Int.zero_add, Int.reduceLE, Int.reduceLT, Int.reduceEq, Int.reduceNe, Int.reduceAdd, Int.reduceSub, Int.reduceMul, Int.reduceNeg, Int.reduceToNat, Nat.reduceMul, Nat.reduceLT, Nat.reduceEqDiff, and_self, ite_true, ite_false, zx1, zx2, zRecv, List.length_cons, List.length_nil, ne_eq, not_true_eq_false, not_false_eq_true, true_or, or_true, or_false, false_or, and_false, false_and, zf01, zf10, reduceCtorEq, zSw_c, zSw_n, zm_r, zit_T, zit_F, false_implies, true_implies, zc_355])
  generalize hR : pOrdC Q.1 Q.2.1 t l w = R
  unfold pOrdC at hR
  have tail : ∀ {t1 l1 a2 a3 : Nat} {m1 m2 m3 : Mn} {c1 : List Int} {μ1 : zMem}, 24 ≤ Q.1 t ∧ Q.1 t ≤ 26 → p3O Q.1 Q.2.1 t l w = (t1, some (l1, (a2, a3), (m1, m2, m3), c1)) → l1 ≤ 50 → MSt Q true t1 l1 μ1 → FM μ μ1 → zCw d y_M_takes0 [vr 355, vi 29] μ1 (fun q μ2 => ∃ n, q = some (vi n) ∧ if ¬ n = 0 then zCw d y_M_mustNumber [vr 355, vi 1, vi 20] μ2 (fun q μ2 => q = none ∧ zCw d y_M_takes0 [vr 355, vi 5] μ2 (fun q μ2 => ∃ n, q = some (vi n) ∧ if ¬ n = 0 then zCw d y_M_readTest [vr 355, vi 0] μ2 (fun q μ2 => q = none ∧ MU Q true R (fun a => a.1) μ μ2) else MU Q true R (fun a => a.1) μ μ2)) else zCw d y_M_takes0 [vr 355, vi 5] μ2 (fun q μ2 => ∃ n, q = some (vi n) ∧ if ¬ n = 0 then zCw d y_M_readTest [vr 355, vi 0] μ2 (fun q μ2 => q = none ∧ MU Q true R (fun a => a.1) μ μ2) else MU Q true R (fun a => a.1) μ μ2)) := by
    intro t1 l1 a2 a3 m1 m2 m3 c1 μ1 g0 g1 g2 g3 g4
    rw [if_pos g0, g1] at hR
    dsimp only at hR
    have rest : ∀ {t2 : Nat} {k : Int} {μ2 : zMem}, pTm Q.1 Q.2.1 t1 = (t2, some k) → MSt Q true t2 l1 μ2 → FM μ μ2 → zCw d y_M_takes0 [vr 355, vi 5] μ2 (fun q μ2 => ∃ n, q = some (vi n) ∧ if ¬ n = 0 then zCw d y_M_readTest [vr 355, vi 0] μ2 (fun q μ2 => q = none ∧ MU Q true R (fun a => a.1) μ μ2) else MU Q true R (fun a => a.1) μ μ2) := by
      intro t2 k μ2 f1 f2 f3
      rw [f1] at hR
      dsimp only at hR
      refine mt_w (by omega) hQ (w + c1.length) f2 g2 (fun μ3 e => ?_)
      rcases h1 : pMT true Q.1 Q.2.1 t2 l1 (w + c1.length) with ⟨t3, _ | ⟨l3, mt, c3⟩⟩
      · rw [h1] at hR
        exact MU_n hR.symm (e.1 _ h1).1 (f3.tr (e.1 _ h1).2)
      · rw [h1] at hR
        exact MU_s hR.symm (e.2 _ _ h1).1 (f3.tr (e.2 _ _ h1).2)
    refine t0_w (by omega) hQ g3 (by decide) (fun c29 μ2 a1 a2 => ⟨_, rfl, ?_⟩) (fun c29 => ⟨_, rfl, ?_⟩)
    · rw [if_pos (by decide)]
      refine mn_w (by omega) hQ a1 (fun c5 μ3 b1 b2 => ⟨rfl, rest (t2 := t1 + 2) (k := Q.2.1 (t1 + 1)) ?_ b1 ((g4.tr a2).tr b2)⟩) (fun c5 μ3 b1 b2 => ⟨rfl, ?_⟩)
      · unfold pTm
        rw [if_pos c29, if_pos c5]
      · have hT : pTm Q.1 Q.2.1 t1 = (t1 + 1, none) := by
          unfold pTm
          rw [if_pos c29, if_neg c5]
        rw [hT] at hR
        exact mt_n (by omega) (bad_n hQ b1) (MU_n hR.symm b1 ((g4.tr a2).tr b2))
    · rw [if_neg (by decide)]
      refine rest (t2 := t1) (k := 1) ?_ g3 g4
      unfold pTm
      rw [if_neg c29]
  have tailn : ∀ {t1 : Nat} {μ1 : zMem}, 24 ≤ Q.1 t ∧ Q.1 t ≤ 26 → p3O Q.1 Q.2.1 t l w = (t1, none) → μ1 355 19 = Q.2.2.1 t1 → FM μ μ1 → MU Q true R (fun a => a.1) μ μ1 := by
    intro t1 μ1 g0 g1 g2 g3
    rw [if_pos g0, g1] at hR
    exact MU_n hR.symm g2 g3
  have t29 : ∀ {μ1 : zMem}, ¬ μ1 355 19 = -1 → MU Q true R (fun a => a.1) μ μ1 → zCw d y_M_takes0 [vr 355, vi 29] μ1 (fun q μ2 => ∃ n, q = some (vi n) ∧ if ¬ n = 0 then zCw d y_M_mustNumber [vr 355, vi 1, vi 20] μ2 (fun q μ2 => q = none ∧ zCw d y_M_takes0 [vr 355, vi 5] μ2 (fun q μ2 => ∃ n, q = some (vi n) ∧ if ¬ n = 0 then zCw d y_M_readTest [vr 355, vi 0] μ2 (fun q μ2 => q = none ∧ MU Q true R (fun a => a.1) μ μ2) else MU Q true R (fun a => a.1) μ μ2)) else zCw d y_M_takes0 [vr 355, vi 5] μ2 (fun q μ2 => ∃ n, q = some (vi n) ∧ if ¬ n = 0 then zCw d y_M_readTest [vr 355, vi 0] μ2 (fun q μ2 => q = none ∧ MU Q true R (fun a => a.1) μ μ2) else MU Q true R (fun a => a.1) μ μ2)) := by
    intro μ1 g1 g2
    refine t0_n (by omega) g1 ⟨_, rfl, ?_⟩
    rw [if_neg (by decide)]
    exact mt_n (by omega) g1 g2
  have kind : ∀ {μ1 : zMem}, Q.1 t = 24 ∨ Q.1 t = 25 → MSt Q true (t + 1) l μ1 → FM μ μ1 → zCw d y_M_readSum [vr 355, vi 0] μ1 (fun q μ2 => q = none ∧ zCw d y_M_must [vr 355, vi 27] μ2 (fun q μ2 => q = none ∧ zCw d y_M_readSum [vr 355, vi 0] μ2 (fun q μ2 => q = none ∧ zCw d y_M_must [vr 355, vi 28] μ2 (fun q μ2 => q = none ∧ zCw d y_M_readSum [vr 355, vi 0] μ2 (fun q μ2 => q = none ∧ zCw d y_M_takes0 [vr 355, vi 29] μ2 (fun q μ2 => ∃ n, q = some (vi n) ∧ if ¬ n = 0 then zCw d y_M_mustNumber [vr 355, vi 1, vi 20] μ2 (fun q μ2 => q = none ∧ zCw d y_M_takes0 [vr 355, vi 5] μ2 (fun q μ2 => ∃ n, q = some (vi n) ∧ if ¬ n = 0 then zCw d y_M_readTest [vr 355, vi 0] μ2 (fun q μ2 => q = none ∧ MU Q true R (fun a => a.1) μ μ2) else MU Q true R (fun a => a.1) μ μ2)) else zCw d y_M_takes0 [vr 355, vi 5] μ2 (fun q μ2 => ∃ n, q = some (vi n) ∧ if ¬ n = 0 then zCw d y_M_readTest [vr 355, vi 0] μ2 (fun q μ2 => q = none ∧ MU Q true R (fun a => a.1) μ μ2) else MU Q true R (fun a => a.1) μ μ2))))))) := by
    intro μ1 g0 g1 g2
    have g00 : 24 ≤ Q.1 t ∧ Q.1 t ≤ 26 := by omega
    have hL : p3O Q.1 Q.2.1 t l w = p3S Q.1 Q.2.1 (t + 1) l w := by
      unfold p3O
      rw [if_neg (by omega)]
    unfold p3S at hL
    refine su_w (by omega) hQ w g1 hl (fun t1 h1 μ2 a1 a2 => ⟨rfl, ?_⟩) (fun t1 l1 m1 c1 h1 hl1 μ2 a1 a2 => ⟨rfl, ?_⟩)
    · rw [h1] at hL
      have hnf := bad_n hQ a1
      exact mu_n (by omega) hnf ⟨rfl, su_n (by omega) hQ hnf ⟨rfl, mu_n (by omega) hnf ⟨rfl, su_n (by omega) hQ hnf ⟨rfl, t29 hnf (tailn g00 hL a1 (g2.tr a2))⟩⟩⟩⟩
    rw [h1] at hL
    dsimp only at hL
    refine mu_w (by omega) hQ a1 (by decide) (fun c27 μ3 b1 b2 => ⟨rfl, ?_⟩) (fun c27 μ3 b1 b2 => ⟨rfl, ?_⟩)
    case refine_2 =>
      rw [if_neg c27] at hL
      have hnf := bad_n hQ b1
      exact su_n (by omega) hQ hnf ⟨rfl, mu_n (by omega) hnf ⟨rfl, su_n (by omega) hQ hnf ⟨rfl, t29 hnf (tailn g00 hL b1 ((g2.tr a2).tr b2))⟩⟩⟩
    rw [if_pos c27] at hL
    refine su_w (by omega) hQ (w + c1.length) b1 hl1 (fun t2 h2 μ4 e1 e2 => ⟨rfl, ?_⟩) (fun t2 l2 m2 c2 h2 hl2 μ4 e1 e2 => ⟨rfl, ?_⟩)
    · rw [h2] at hL
      have hnf := bad_n hQ e1
      exact mu_n (by omega) hnf ⟨rfl, su_n (by omega) hQ hnf ⟨rfl, t29 hnf (tailn g00 hL e1 (((g2.tr a2).tr b2).tr e2))⟩⟩
    rw [h2] at hL
    dsimp only at hL
    refine mu_w (by omega) hQ e1 (by decide) (fun c28 μ5 f1 f2 => ⟨rfl, ?_⟩) (fun c28 μ5 f1 f2 => ⟨rfl, ?_⟩)
    case refine_2 =>
      rw [if_neg c28] at hL
      have hnf := bad_n hQ f1
      exact su_n (by omega) hQ hnf ⟨rfl, t29 hnf (tailn g00 hL f1 ((((g2.tr a2).tr b2).tr e2).tr f2))⟩
    rw [if_pos c28] at hL
    refine su_w (by omega) hQ (w + c1.length + c2.length) f1 hl2 (fun t3 h3 μ6 j1 j2 => ⟨rfl, ?_⟩) (fun t3 l3 m3 c3 h3 hl3 μ6 j1 j2 => ⟨rfl, ?_⟩)
    · rw [h3] at hL
      exact t29 (bad_n hQ j1) (tailn g00 hL j1 (((((g2.tr a2).tr b2).tr e2).tr f2).tr j2))
    · rw [h3] at hL
      exact tail g00 hL hl3 j1 (((((g2.tr a2).tr b2).tr e2).tr f2).tr j2)
  refine t0_w (by omega) hQ h (by decide) (fun c1 μ1 a1 a2 => ⟨_, rfl, by
    rw [if_pos (by decide)]
    exact kind (Or.inl c1) a1 a2⟩) (fun c1 => ⟨_, rfl, ?_⟩)
  rw [if_neg (by decide)]
  refine t0_w (by omega) hQ h (by decide) (fun c1 μ1 a1 a2 => ⟨_, rfl, by
    rw [if_pos (by decide)]
    exact kind (Or.inr c1) a1 a2⟩) (fun c2 => ⟨_, rfl, ?_⟩)
  rw [if_neg (by decide)]
  refine mu_w (by omega) hQ h (by decide) (fun c4 μ1 a1 a2 => ⟨rfl, ?_⟩) (fun c4 μ1 a1 a2 => ⟨rfl, ?_⟩)
  · refine tail (by omega) (t1 := t + 1) (l1 := l) (a2 := w) (a3 := w) (m1 := fun _ => some 0) (m2 := fun _ => some 0) (m3 := fun _ => some 0) (c1 := []) ?_ hl a1 a2
    unfold p3O
    rw [if_pos c4]
  · rw [if_neg (by omega)] at hR
    exact t29 (bad_n hQ a1) (MU_n hR.symm a1 a2)

